section
/-! ends of a contract in words that compose; fewer locals -/
def pI (P : Int32 → Prop) (R : List jC → Prop) : jQ := fun o w => match o with
  | .inl (some (.int v)) => P v ∧ R w
  | _ => False
def pV (R : List jC → Prop) : jQ := fun o w => match o with
  | .inl none => R w
  | _ => False
def pL (P : Int64 → Prop) (R : List jC → Prop) : jQ := fun o w => match o with
  | .inl (some (.long v)) => P v ∧ R w
  | _ => False
def pA (R : Nat → List jC → Prop) : jQ := fun o w => match o with
  | .inl (some (.ref a)) => R a w
  | _ => False
/-- .. that may throw -/
def pX (q : jQ) (RX : String → List jC → Prop) : jQ := fun o w => match o with
  | .inr E => RX E w
  | .inl r => q (.inl r) w
section JPOST
variable {X : jX} {M : jM} {d kc ks pc : Nat} {L : List (Option Value)} {st : List Value} {w : List jC} {Q : jQ}
theorem kr_I {P : Int32 → Prop} {R : List jC → Prop} (k : ∀ (v : Int32) (w' : List jC), P v → R w' → J X M d kc ks pc L (.int v :: st) w' Q) : ∀ (r : Option Value) (w' : List jC), pI P R (.inl r) w' → J X M d kc ks pc L (r.toList ++ st) w' Q := by
  intro r w' h
  match r, h with
  | some (.int v), h => exact k v w' h.1 h.2
theorem kr_P {P : Int32 → Prop} {w : List jC} (k : ∀ (v : Int32), P v → J X M d kc ks pc L (.int v :: st) w Q) : ∀ (r : Option Value) (w' : List jC), pI P (fun w' => w' = w) (.inl r) w' → J X M d kc ks pc L (r.toList ++ st) w' Q :=
  kr_I (fun v w' hv hw => by subst hw; exact k v hv)
theorem kr_L {P : Int64 → Prop} {R : List jC → Prop} (k : ∀ (v : Int64) (w' : List jC), P v → R w' → J X M d kc ks pc L (.long v :: st) w' Q) : ∀ (r : Option Value) (w' : List jC), pL P R (.inl r) w' → J X M d kc ks pc L (r.toList ++ st) w' Q := by
  intro r w' h
  match r, h with
  | some (.long v), h => exact k v w' h.1 h.2
theorem kr_V {R : List jC → Prop} (k : ∀ (w' : List jC), R w' → J X M d kc ks pc L st w' Q) : ∀ (r : Option Value) (w' : List jC), pV R (.inl r) w' → J X M d kc ks pc L (r.toList ++ st) w' Q := by
  intro r w' h
  match r, h with
  | none, h => exact k w' h
theorem kr_A {R : Nat → List jC → Prop} (k : ∀ (a : Nat) (w' : List jC), R a w' → J X M d kc ks pc L (.ref a :: st) w' Q) : ∀ (r : Option Value) (w' : List jC), pA R (.inl r) w' → J X M d kc ks pc L (r.toList ++ st) w' Q := by
  intro r w' h
  match r, h with
  | some (.ref a), h => exact k a w' h
theorem kr_X {q : jQ} {RX : String → List jC → Prop} (k : ∀ (r : Option Value) (w' : List jC), q (.inl r) w' → J X M d kc ks pc L (r.toList ++ st) w' Q) : ∀ (r : Option Value) (w' : List jC), pX q RX (.inl r) w' → J X M d kc ks pc L (r.toList ++ st) w' Q := k
theorem kx_I {P : Int32 → Prop} {R : List jC → Prop} : ∀ (E : String) (w' : List jC), pI P R (.inr E) w' → JX X M d kc ks pc L st w' E Q := fun _ _ h => h.elim
theorem kx_L {P : Int64 → Prop} {R : List jC → Prop} : ∀ (E : String) (w' : List jC), pL P R (.inr E) w' → JX X M d kc ks pc L st w' E Q := fun _ _ h => h.elim
theorem kx_V {R : List jC → Prop} : ∀ (E : String) (w' : List jC), pV R (.inr E) w' → JX X M d kc ks pc L st w' E Q := fun _ _ h => h.elim
theorem kx_A {R : Nat → List jC → Prop} : ∀ (E : String) (w' : List jC), pA R (.inr E) w' → JX X M d kc ks pc L st w' E Q := fun _ _ h => h.elim
theorem kx_X {q : jQ} {RX : String → List jC → Prop} (k : ∀ (E : String) (w' : List jC), RX E w' → JX X M d kc ks pc L st w' E Q) : ∀ (E : String) (w' : List jC), pX q RX (.inr E) w' → JX X M d kc ks pc L st w' E Q := k
/-- L' says no more than L -/
def jSub : List (Option Value) → List (Option Value) → Prop
  | [], _ => True
  | none :: t, _ :: t' => jSub t t'
  | some v :: t, x :: t' => x = some v ∧ jSub t t'
  | _ :: _, [] => False
theorem jSub_spec : ∀ {L' L : List (Option Value)}, jSub L' L → ∀ (i : Nat) (v : Value), L'[i]? = some (some v) → L[i]? = some (some v)
  | [], _, _, i, v, hi => by simp at hi
  | none :: t, x :: t', h, i, v, hi => by
    cases i with
    | zero => simp at hi
    | succ i => exact jSub_spec (L' := t) (L := t') h i v hi
  | some u :: t, x :: t', h, i, v, hi => by
    cases i with
    | zero => simp at hi; subst hi; rw [h.1]; rfl
    | succ i => exact jSub_spec (L' := t) (L := t') h.2 i v hi
  | none :: t, [], h, i, v, hi => h.elim
  | some u :: t, [], h, i, v, hi => h.elim
theorem J_sub {L' : List (Option Value)} (hs : jSub L' L) (h : J X M d kc ks pc L' st w Q) : J X M d kc ks pc L st w Q :=
  fun p e R s m args below meth c C H locs cells slots ls hH hS hL h1 h2 => h p e R s m args below meth c C H locs cells slots ls hH hS ⟨hL.1, hL.2.1, fun i v hi => hL.2.2 i v (jSub_spec hs i v hi)⟩ h1 h2
theorem jMet.mono {M : jM} {as : List Value} {Q Q' : jQ} (h : jMet X M d kc ks as w Q) (hq : ∀ o w', Q o w' → Q' o w') : jMet X M d kc ks as w Q' := by
  intro p e ha hc hk s m args below hf happ hP hK
  obtain ⟨n, o, h1, h2, h3, h4⟩ := h p e ha hc hk s m args below hf happ hP hK
  refine ⟨n, o, h1, h2, h3, ?_⟩
  rcases h4 with ⟨⟨r, w', c1, c2, c3⟩, c4⟩ | ⟨q, c1, E, ce, Ls, ⟨w', c2, c3⟩, c4⟩
  · exact Or.inl ⟨⟨r, w', c1, hq _ _ c2, c3⟩, c4⟩
  · exact Or.inr ⟨q, c1, E, ce, Ls, ⟨w', hq _ _ c2, c3⟩, c4⟩
end JPOST
end
section
/-! shapes: what each place of a world may hold; frames: what is kept -/
def SH (ρ : List (jC → Prop)) (w : List jC) : Prop := ∀ (i : Nat) (p : jC → Prop), ρ[i]? = some p → ∃ c, w[i]? = some c ∧ p c
def Fr (K : Nat → Prop) (w w' : List jC) : Prop := w.length ≤ w'.length ∧ ∀ i, K i → i < w.length → w'[i]? = w[i]?
theorem Fr.rf {K : Nat → Prop} {w : List jC} : Fr K w w := ⟨Nat.le_refl _, fun _ _ _ => rfl⟩
theorem Fr.tr {K : Nat → Prop} {w w' w'' : List jC} (h : Fr K w w') (h' : Fr K w' w'') : Fr K w w'' := ⟨Nat.le_trans h.1 h'.1, fun i hi hl => (h'.2 i hi (Nat.lt_of_lt_of_le hl h.1)).trans (h.2 i hi hl)⟩
theorem Fr.mono {K K' : Nat → Prop} {w w' : List jC} (h : Fr K w w') (hk : ∀ i, K' i → K i) : Fr K' w w' := ⟨h.1, fun i hi hl => h.2 i (hk i hi) hl⟩
theorem Fr.set {K : Nat → Prop} {w : List jC} {a : Nat} {c : jC} (ha : ¬ K a) : Fr K w (w.set a c) := ⟨by rw [List.length_set]; exact Nat.le_refl _, fun i hi _ => List.getElem?_set_ne (fun e => ha (by rw [e]; exact hi))⟩
theorem Fr.push {K : Nat → Prop} {w : List jC} {cs : List jC} : Fr K w (w ++ cs) := ⟨by rw [List.length_append]; exact Nat.le_add_right _ _, fun _ _ hl => List.getElem?_append_left hl⟩
theorem SH.set {ρ : List (jC → Prop)} {w : List jC} {a : Nat} {p : jC → Prop} {c : jC} (h : SH ρ w) (hp : ρ[a]? = some p) (hc : p c) : SH ρ (w.set a c) := by
  intro i q hq
  by_cases e : i = a
  · subst e
    obtain ⟨c0, h0, -⟩ := h i p hp
    rw [hp] at hq
    cases hq
    exact ⟨c, List.getElem?_set_self (List.getElem?_eq_some_iff.mp h0).1, hc⟩
  · obtain ⟨c0, h0, h1⟩ := h i q hq
    exact ⟨c0, by rw [List.getElem?_set_ne (fun z => e z.symm)]; exact h0, h1⟩
theorem SH.push {ρ : List (jC → Prop)} {w : List jC} {cs : List jC} (h : SH ρ w) : SH ρ (w ++ cs) := by
  intro i q hq
  obtain ⟨c0, h0, h1⟩ := h i q hq
  exact ⟨c0, by rw [List.getElem?_append_left (List.getElem?_eq_some_iff.mp h0).1]; exact h0, h1⟩
theorem SH.keep {ρ : List (jC → Prop)} {w w' : List jC} (h : SH ρ w) (hk : ∀ i, i < ρ.length → w'[i]? = w[i]?) : SH ρ w' := by
  intro i q hq
  obtain ⟨c0, h0, h1⟩ := h i q hq
  exact ⟨c0, by rw [hk i (List.getElem?_eq_some_iff.mp hq).1]; exact h0, h1⟩
def tA (k : Nat) : jC → Prop := fun c => ∃ xs : List Int32, c = .inl (0, xs) ∧ xs.length = k
section JSHAPE
variable {X : jX} {M : jM} {d kc ks pc : Nat} {L : List (Option Value)} {st : List Value} {w : List jC} {Q : jQ} {ρ : List (jC → Prop)} {p : jC → Prop}
theorem J_iastS {a : Nat} {xs : List Int32} {i x : Int32} (K : Nat → Prop) (hdg : decode M.2.1 pc = .ok (.iastore, 1)) (hS : SH ρ w) (hw : w[a]? = some (.inl (0, xs))) (hin : vp_in i xs.length) (hp : ρ[a]? = some p) (hok : p (.inl (0, xs.set i.toNatClampNeg x))) (hK : ¬ K a)
    (kk : ∀ w' : List jC, SH ρ w' → w'[a]? = some (.inl (0, xs.set i.toNatClampNeg x)) → (∀ b, b ≠ a → w'[b]? = w[b]?) → Fr K w w' → J X M d kc ks (pc + 1) L st w' Q) : J X M d kc ks pc L (.int x :: .int i :: .ref a :: st) w Q :=
  J_iast hdg hw hin (kk _ (hS.set hp hok) (List.getElem?_set_self (List.getElem?_eq_some_iff.mp hw).1) (fun b hb => List.getElem?_set_ne (fun e => hb e.symm)) (Fr.set hK))
theorem J_putS {ci : Nat} {C : String} {T : u_T} {N : Nat} {ty : Nat → FieldType} {index k a : Nat} {fs : List Value} {v : Value} (K : Nat → Prop) (hdg : decode M.2.1 pc = .ok (.putfield index, 3)) (hC : jCl ci C T N ty) (hk : k < N) (hl : Cond.fieldLink M.1.cls index (T k).1 (T k).2.1 (T k).2.2.1 ∈ jK)
    (hfin : (T k).2.2.2 = false ∨ ((T k).2.2.2 = true ∧ M.1.name = "<init>" ∧ (T k).1 = M.1.cls)) (hfit : jFit (ty k) v)
    (hS : SH ρ w) (hw : w[a]? = some (.inr (ci, fs))) (hlen : k < fs.length) (hp : ρ[a]? = some p) (hok : p (.inr (ci, fs.set k v))) (hK : ¬ K a)
    (kk : ∀ w' : List jC, SH ρ w' → w'[a]? = some (.inr (ci, fs.set k v)) → (∀ b, b ≠ a → w'[b]? = w[b]?) → Fr K w w' → J X M d kc ks (pc + 3) L st w' Q) : J X M d kc ks pc L (v :: .ref a :: st) w Q :=
  J_put hdg hC hk hl hfin hfit hw hlen (kk _ (hS.set hp hok) (List.getElem?_set_self (List.getElem?_eq_some_iff.mp hw).1) (fun b hb => List.getElem?_set_ne (fun e => hb e.symm)) (Fr.set hK))
end JSHAPE
/-- the class's cells -/
def rX (n : Nat) (e r q : Int32) : List (jC → Prop) := [
  (fun c => c = .inr (7, [.ref 1, .ref 2, .ref 8, .ref 12, .ref 14, .int (nI n), .int e, .int r, .int q])),
  tA 6,
  (fun c => ∃ (a f : Nat) (b g : Int32), c = .inr (2, [.ref 3, .ref 4, .ref 5, .ref 6, .ref 7, .int (nI a), .int b, .int g, .int (nI f)]) ∧ a ≤ 21 ∧ f ≤ 7),
  tA 64, tA 64, tA 8, tA 8, tA 21,
  (fun c => ∃ a : Nat, c = .inr (6, [.ref 9, .int (nI a)]) ∧ a ≤ 7),
  (fun c => ∃ a : Nat, c = .inr (3, [.ref 10, .ref 11, .int (nI a)]) ∧ a ≤ 5040),
  tA 5040, tA 158,
  (fun c => ∃ a : Nat, c = .inr (5, [.ref 13, .int (nI a)]) ∧ a ≤ 7),
  tA 8,
  (fun c => ∃ a b : Nat, c = .inr (4, [.ref 15, .ref 18, .int (nI a), .int (nI b)]) ∧ 1 ≤ a ∧ a ≤ 3 ∧ b ≤ 7),
  (fun c => ∃ a : Nat, c = .inr (3, [.ref 16, .ref 17, .int (nI a)]) ∧ a ≤ 2187),
  tA 2187, tA 69, tA 8]
/-- what calls of the class keep -/
abbrev kX (i : Nat) : Prop := i = 1 ∨ 19 ≤ i
/-- a call of the class that keeps the house's own numbers -/
def rS (n : Nat) (e r q : Int32) (w w' : List jC) : Prop := SH (rX n e r q) w' ∧ Fr kX w w'
section JSHAPE2
variable {X : jX} {M : jM} {d kc ks pc : Nat} {L : List (Option Value)} {st : List Value} {w : List jC} {Q : jQ}
theorem SH.lt {ρ : List (jC → Prop)} {w : List jC} (h : SH ρ w) {a : Nat} (ha : a < ρ.length) : a < w.length := by
  obtain ⟨c, hc, -⟩ := h a _ (List.getElem?_eq_getElem ha)
  exact (List.getElem?_eq_some_iff.mp hc).1
theorem rX_0 {n n' : Nat} {e r q e' r' q' : Int32} {w : List jC} (h : SH (rX n e r q) w) : SH (rX n' e' r' q') (w.set 0 (.inr (7, [.ref 1, .ref 2, .ref 8, .ref 12, .ref 14, .int (nI n'), .int e', .int r', .int q']))) := by
  intro i p hp
  have h0 : 0 < w.length := h.lt (by show 0 < 19; decide)
  cases i with
  | zero =>
    cases hp
    exact ⟨_, List.getElem?_set_self h0, rfl⟩
  | succ i =>
    obtain ⟨c, hc, h2⟩ := h (i + 1) p hp
    exact ⟨c, by rw [List.getElem?_set_ne (by omega)]; exact hc, h2⟩
/-- a field of the house itself is stored -/
theorem J_put0 {T : u_T} {N : Nat} {ty : Nat → FieldType} {C : String} {index k n n' : Nat} {e r q e' r' q' : Int32} {v : Value} (hdg : decode M.2.1 pc = .ok (.putfield index, 3)) (hC : jCl 7 C T N ty) (hk : k < N) (hl : Cond.fieldLink M.1.cls index (T k).1 (T k).2.1 (T k).2.2.1 ∈ jK)
    (hfin : (T k).2.2.2 = false ∨ ((T k).2.2.2 = true ∧ M.1.name = "<init>" ∧ (T k).1 = M.1.cls)) (hfit : jFit (ty k) v)
    (hS : SH (rX n e r q) w) (hlen : k < 9) (he : ([.ref 1, .ref 2, .ref 8, .ref 12, .ref 14, .int (nI n), .int e, .int r, .int q] : List Value).set k v = [.ref 1, .ref 2, .ref 8, .ref 12, .ref 14, .int (nI n'), .int e', .int r', .int q'])
    (kk : ∀ w' : List jC, SH (rX n' e' r' q') w' → (∀ b, b ≠ 0 → w'[b]? = w[b]?) → Fr kX w w' → J X M d kc ks (pc + 3) L st w' Q) : J X M d kc ks pc L (v :: .ref 0 :: st) w Q := by
  obtain ⟨c, hc, rfl⟩ := hS 0 _ rfl
  refine J_put hdg hC hk hl hfin hfit hc (by simpa using hlen) ?_
  rw [he]
  exact kk _ (rX_0 hS) (fun b hb => List.getElem?_set_ne (fun e => hb e.symm)) (Fr.set (by decide : ¬ kX 0))
end JSHAPE2
end
section
/-! rules over naturals, and rules that forget -/
section JWEAK
variable {X : jX} {M : jM} {d kc ks pc : Nat} {L : List (Option Value)} {st : List Value} {w : List jC} {Q : jQ}
theorem J_absI {y : Int32} (h : ∀ x, J X M d kc ks pc L (.int x :: st) w Q) : J X M d kc ks pc L (.int y :: st) w Q := h y
theorem J_absL {y : Int64} (h : ∀ x, J X M d kc ks pc L (.long x :: st) w Q) : J X M d kc ks pc L (.long y :: st) w Q := h y
theorem J_andE {x : Int32} (k m : Nat) (hm : (nI m).toBitVec.toNat = 2 ^ k - 1) (h : ∀ j, j < 2 ^ k → J X M d kc ks pc L (.int (nI j) :: st) w Q) : J X M d kc ks pc L (.int (x &&& nI m) :: st) w Q := by
  obtain ⟨j, hj, e⟩ := pk_andE x k hm
  rw [e]
  exact h j hj
theorem J_iaddN {a b : Nat} (hdg : decode M.2.1 pc = .ok (.iadd, 1)) (k : J X M d kc ks (pc + 1) L (.int (nI (a + b)) :: st) w Q) : J X M d kc ks pc L (.int (nI b) :: .int (nI a) :: st) w Q := J_iadd hdg (by rw [nI_add]; exact k)
theorem J_isubN {a b : Nat} (hdg : decode M.2.1 pc = .ok (.isub, 1)) (h : b ≤ a) (k : J X M d kc ks (pc + 1) L (.int (nI (a - b)) :: st) w Q) : J X M d kc ks pc L (.int (nI b) :: .int (nI a) :: st) w Q := J_isub hdg (by rw [pk_sub h]; exact k)
theorem J_imulN {a b : Nat} (hdg : decode M.2.1 pc = .ok (.imul, 1)) (k : J X M d kc ks (pc + 1) L (.int (nI (a * b)) :: st) w Q) : J X M d kc ks pc L (.int (nI b) :: .int (nI a) :: st) w Q := J_imul hdg (by rw [pk_mul]; exact k)
theorem J_iincN {i a b : Nat} {n : Int} (hdg : decode M.2.1 pc = .ok (.iinc i n, 3)) (hl : L[i]? = some (some (.int (nI a)))) (hv : Int32.ofInt n = nI b) (hn : i < M.2.2.1) (hok : jOk1 L i = true) (kk : J X M d kc ks (pc + 3) (L.set i (some (.int (nI (a + b))))) st w Q) : J X M d kc ks pc L st w Q :=
  J_iinc hdg hl (by rw [hv, nI_add]) hn hok kk
theorem nI_m1 {a : Nat} (h : 1 ≤ a) : nI a + Int32.ofInt (-1) = nI (a - 1) := by
  obtain ⟨b, rfl⟩ : ∃ b, a = b + 1 := ⟨a - 1, by omega⟩
  have : Int32.ofInt (-1) = -1 := by decide
  rw [this, Nat.add_sub_cancel, ← nI_pred b, Int32.sub_eq_add_neg]
theorem J_iincM {i a : Nat} (hdg : decode M.2.1 pc = .ok (.iinc i (-1), 3)) (hl : L[i]? = some (some (.int (nI a)))) (h1 : 1 ≤ a) (hn : i < M.2.2.1) (hok : jOk1 L i = true) (kk : J X M d kc ks (pc + 3) (L.set i (some (.int (nI (a - 1))))) st w Q) : J X M d kc ks pc L st w Q :=
  J_iinc hdg hl (nI_m1 h1) hn hok kk
theorem J_icmp_eqN {a b : Nat} {off : Int} {tgt : Nat} (hdg : decode M.2.1 pc = .ok (.if_icmp .eq off, 3)) (ht : (pc : Int) + off = (tgt : Int)) (ha : a < 2 ^ 31) (hb : b < 2 ^ 31) (kt : a = b → J X M d kc ks tgt L st w Q) (kf : ¬ a = b → J X M d kc ks (pc + 3) L st w Q) : J X M d kc ks pc L (.int (nI b) :: .int (nI a) :: st) w Q := J_icmp_eq hdg ht (fun h => kt ((nI_eq ha hb).mp h)) (fun h => kf (fun e => h ((nI_eq ha hb).mpr e)))
theorem J_icmp_neN {a b : Nat} {off : Int} {tgt : Nat} (hdg : decode M.2.1 pc = .ok (.if_icmp .ne off, 3)) (ht : (pc : Int) + off = (tgt : Int)) (ha : a < 2 ^ 31) (hb : b < 2 ^ 31) (kt : ¬ a = b → J X M d kc ks tgt L st w Q) (kf : a = b → J X M d kc ks (pc + 3) L st w Q) : J X M d kc ks pc L (.int (nI b) :: .int (nI a) :: st) w Q := J_icmp_ne hdg ht (fun h => kt (fun e => h ((nI_eq ha hb).mpr e))) (fun h => kf ((nI_eq ha hb).mp h))
theorem J_icmp_ltN {a b : Nat} {off : Int} {tgt : Nat} (hdg : decode M.2.1 pc = .ok (.if_icmp .lt off, 3)) (ht : (pc : Int) + off = (tgt : Int)) (ha : a < 2 ^ 31) (hb : b < 2 ^ 31) (kt : a < b → J X M d kc ks tgt L st w Q) (kf : b ≤ a → J X M d kc ks (pc + 3) L st w Q) : J X M d kc ks pc L (.int (nI b) :: .int (nI a) :: st) w Q := J_icmp_lt hdg ht (fun h => kt ((nI_ltI ha hb).mp h)) (fun h => kf (Nat.not_lt.mp fun e => h ((nI_ltI ha hb).mpr e)))
theorem J_icmp_geN {a b : Nat} {off : Int} {tgt : Nat} (hdg : decode M.2.1 pc = .ok (.if_icmp .ge off, 3)) (ht : (pc : Int) + off = (tgt : Int)) (ha : a < 2 ^ 31) (hb : b < 2 ^ 31) (kt : b ≤ a → J X M d kc ks tgt L st w Q) (kf : a < b → J X M d kc ks (pc + 3) L st w Q) : J X M d kc ks pc L (.int (nI b) :: .int (nI a) :: st) w Q := J_icmp_ge hdg ht (fun h => kt ((nI_leI hb ha).mp h)) (fun h => kf (Nat.not_le.mp fun e => h ((nI_leI hb ha).mpr e)))
theorem J_icmp_gtN {a b : Nat} {off : Int} {tgt : Nat} (hdg : decode M.2.1 pc = .ok (.if_icmp .gt off, 3)) (ht : (pc : Int) + off = (tgt : Int)) (ha : a < 2 ^ 31) (hb : b < 2 ^ 31) (kt : b < a → J X M d kc ks tgt L st w Q) (kf : a ≤ b → J X M d kc ks (pc + 3) L st w Q) : J X M d kc ks pc L (.int (nI b) :: .int (nI a) :: st) w Q := J_icmp_gt hdg ht (fun h => kt ((nI_ltI hb ha).mp h)) (fun h => kf (Nat.not_lt.mp fun e => h ((nI_ltI hb ha).mpr e)))
theorem J_icmp_leN {a b : Nat} {off : Int} {tgt : Nat} (hdg : decode M.2.1 pc = .ok (.if_icmp .le off, 3)) (ht : (pc : Int) + off = (tgt : Int)) (ha : a < 2 ^ 31) (hb : b < 2 ^ 31) (kt : a ≤ b → J X M d kc ks tgt L st w Q) (kf : b < a → J X M d kc ks (pc + 3) L st w Q) : J X M d kc ks pc L (.int (nI b) :: .int (nI a) :: st) w Q := J_icmp_le hdg ht (fun h => kt ((nI_leI ha hb).mp h)) (fun h => kf (Nat.not_le.mp fun e => h ((nI_leI ha hb).mpr e)))
theorem J_if_eqN {a : Nat} {off : Int} {tgt : Nat} (hdg : decode M.2.1 pc = .ok (.ifCond .eq off, 3)) (ht : (pc : Int) + off = (tgt : Int)) (ha : a < 2 ^ 31) (kt : a = 0 → J X M d kc ks tgt L st w Q) (kf : ¬ a = 0 → J X M d kc ks (pc + 3) L st w Q) : J X M d kc ks pc L (.int (nI a) :: st) w Q := J_if_eq hdg ht (fun h => kt ((nI_eq ha (b := 0) (by decide)).mp (h.trans nI_0.symm))) (fun h => kf fun e => h (by rw [e]; exact nI_0))
theorem J_if_neN {a : Nat} {off : Int} {tgt : Nat} (hdg : decode M.2.1 pc = .ok (.ifCond .ne off, 3)) (ht : (pc : Int) + off = (tgt : Int)) (ha : a < 2 ^ 31) (kt : ¬ a = 0 → J X M d kc ks tgt L st w Q) (kf : a = 0 → J X M d kc ks (pc + 3) L st w Q) : J X M d kc ks pc L (.int (nI a) :: st) w Q := J_if_ne hdg ht (fun h => kt fun e => h (by rw [e]; exact nI_0)) (fun h => kf ((nI_eq ha (b := 0) (by decide)).mp (h.trans nI_0.symm)))
theorem J_if_ltN {a : Nat} {off : Int} {tgt : Nat} (hdg : decode M.2.1 pc = .ok (.ifCond .lt off, 3)) (ht : (pc : Int) + off = (tgt : Int)) (ha : a < 2 ^ 31) (kf : True → J X M d kc ks (pc + 3) L st w Q) : J X M d kc ks pc L (.int (nI a) :: st) w Q := J_if_lt hdg ht (fun h => absurd h (nI_pos ha)) (fun h => kf trivial)
theorem J_if_geN {a : Nat} {off : Int} {tgt : Nat} (hdg : decode M.2.1 pc = .ok (.ifCond .ge off, 3)) (ht : (pc : Int) + off = (tgt : Int)) (ha : a < 2 ^ 31) (kt : True → J X M d kc ks tgt L st w Q) : J X M d kc ks pc L (.int (nI a) :: st) w Q := J_if_ge hdg ht (fun h => kt trivial) (fun h => absurd (nI_pos' ha) h)
theorem J_if_gtN {a : Nat} {off : Int} {tgt : Nat} (hdg : decode M.2.1 pc = .ok (.ifCond .gt off, 3)) (ht : (pc : Int) + off = (tgt : Int)) (ha : a < 2 ^ 31) (kt : 0 < a → J X M d kc ks tgt L st w Q) (kf : a = 0 → J X M d kc ks (pc + 3) L st w Q) : J X M d kc ks pc L (.int (nI a) :: st) w Q := J_if_gt hdg ht (fun h => kt (Nat.pos_of_ne_zero fun e => by subst e; exact absurd h (by decide))) (fun h => kf (Nat.eq_zero_of_not_pos fun e => h (by have := nI_lt e ha; exact this)))
theorem J_if_leN {a : Nat} {off : Int} {tgt : Nat} (hdg : decode M.2.1 pc = .ok (.ifCond .le off, 3)) (ht : (pc : Int) + off = (tgt : Int)) (ha : a < 2 ^ 31) (kt : a = 0 → J X M d kc ks tgt L st w Q) (kf : 0 < a → J X M d kc ks (pc + 3) L st w Q) : J X M d kc ks pc L (.int (nI a) :: st) w Q := J_if_le hdg ht (fun h => kt (Nat.eq_zero_of_not_pos fun e => nI_nle e ha h)) (fun h => kf (Nat.pos_of_ne_zero fun e => by subst e; exact absurd h (by decide)))
theorem J_isubM {a : Nat} (hdg : decode M.2.1 pc = .ok (.isub, 1)) (k : J X M d kc ks (pc + 1) L (.int (nI a + Int32.ofInt (-1)) :: st) w Q) : J X M d kc ks pc L (.int (nI 1) :: .int (nI a) :: st) w Q := J_isub hdg (by
  have e : nI a - nI 1 = nI a + Int32.ofInt (-1) := by
    rw [Int32.sub_eq_add_neg]
    rfl
  rw [e]
  exact k)
theorem J_idivN {a b : Nat} (hdg : decode M.2.1 pc = .ok (.idiv, 1)) (ha : a < 2 ^ 31) (h0 : 0 < b) (hb : b < 2 ^ 31) (k : J X M d kc ks (pc + 1) L (.int (nI (a / b)) :: st) w Q) : J X M d kc ks pc L (.int (nI b) :: .int (nI a) :: st) w Q := J_idiv hdg (nI_ne0 h0 hb) (by rw [pk_div ha h0 hb]; exact k)
theorem J_iremN {a b : Nat} (hdg : decode M.2.1 pc = .ok (.irem, 1)) (ha : a < 2 ^ 31) (h0 : 0 < b) (hb : b < 2 ^ 31) (k : J X M d kc ks (pc + 1) L (.int (nI (a % b)) :: st) w Q) : J X M d kc ks pc L (.int (nI b) :: .int (nI a) :: st) w Q := J_irem hdg (nI_ne0 h0 hb) (by rw [pk_rem ha h0 hb]; exact k)
theorem J_if_ltM {a : Nat} {off : Int} {tgt : Nat} (hdg : decode M.2.1 pc = .ok (.ifCond .lt off, 3)) (ht : (pc : Int) + off = (tgt : Int)) (ha : a < 2 ^ 31) (kt : a = 0 → J X M d kc ks tgt L st w Q) (kf : 1 ≤ a → J X M d kc ks (pc + 3) L st w Q) : J X M d kc ks pc L (.int (nI a + Int32.ofInt (-1)) :: st) w Q := by
  refine J_if_lt hdg ht (fun h => kt ?_) (fun h => kf ?_)
  · refine Nat.eq_zero_of_not_pos fun h1 => ?_
    rw [nI_m1 h1] at h
    exact nI_pos (by omega) h
  · refine Nat.pos_of_ne_zero fun e => h ?_
    subst e
    decide
/-- the natural that an int is at the most -/
def tN (x : Int32) : Nat := x.toInt.toNat
theorem tN_lt (x : Int32) : tN x < 2 ^ 31 := by
  have h1 := x.toInt_lt
  unfold tN
  omega
theorem tN_lt_iff {a : Nat} {x : Int32} (ha : a < 2 ^ 31) : nI a < x ↔ a < tN x := by
  rw [Int32.lt_iff_toInt_lt, nI_toInt ha]
  unfold tN
  omega
theorem J_icmp_geI {a : Nat} {x : Int32} {off : Int} {tgt : Nat} (hdg : decode M.2.1 pc = .ok (.if_icmp .ge off, 3)) (ht : (pc : Int) + off = (tgt : Int)) (ha : a < 2 ^ 31) (kt : tN x ≤ a → J X M d kc ks tgt L st w Q) (kf : a < tN x → J X M d kc ks (pc + 3) L st w Q) : J X M d kc ks pc L (.int x :: .int (nI a) :: st) w Q :=
  J_icmp_ge hdg ht (fun h => kt (Nat.not_lt.mp fun e => absurd ((tN_lt_iff ha).mpr e) (Int32.not_lt.mpr h))) (fun h => kf ((tN_lt_iff ha).mp (Int32.not_le.mp h)))
theorem J_icmp_ltI {a : Nat} {x : Int32} {off : Int} {tgt : Nat} (hdg : decode M.2.1 pc = .ok (.if_icmp .lt off, 3)) (ht : (pc : Int) + off = (tgt : Int)) (ha : a < 2 ^ 31) (kt : a < tN x → J X M d kc ks tgt L st w Q) (kf : tN x ≤ a → J X M d kc ks (pc + 3) L st w Q) : J X M d kc ks pc L (.int x :: .int (nI a) :: st) w Q :=
  J_icmp_lt hdg ht (fun h => kt ((tN_lt_iff ha).mp h)) (fun h => kf (Nat.not_lt.mp fun e => h ((tN_lt_iff ha).mpr e)))
theorem nI_k {x : Int32} {b : Nat} (hb : b < 2 ^ 31) (h1 : ¬ x < 0) (h2 : ¬ nI b ≤ x) : ∃ k, k < b ∧ x = nI k := by
  obtain ⟨j, hj, rfl⟩ := nI_of h1
  exact ⟨j, Nat.not_le.mp fun e => h2 ((nI_leI hb hj).mpr e), rfl⟩
end JWEAK
theorem nar_b {k : Nat} (h : k < 2) : narrow .boolean (.int (nI k)) = .int (nI k) := by
  rcases (show k = 0 ∨ k = 1 by omega) with rfl | rfl <;> decide +kernel
theorem nz1 {y : Int32} (h : nI 1 ≤ y) : ¬ y = 0 := by
  intro e; subst e; exact absurd h (by decide)
theorem nz1' {y : Int32} (h : ¬ y < nI 1) : ¬ y = 0 := by
  intro e; subst e; exact absurd h (by decide)
def rT (n : Nat) (q : Int32) (w w' : List jC) : Prop := ∃ e r : Int32, rS n e r q w w'
section JCALL0
variable {X : jX} {M : jM} {d kc ks pc : Nat} {L : List (Option Value)} {st : List Value} {w : List jC} {Q : jQ}
theorem J_callS0 {index d' n : Nat} {z : jM} {as : List Value} {Q' : jQ} (hdg : decode M.2.1 pc = .ok (.invokestatic index, 3)) (hz : jCal z n) (hl : Cond.methodLink M.1.cls index z.1 ∈ jK) (hst : Cond.static z.1 ∈ jK) (hn : as.length = n) (hM : jMet X z d' 0 0 as w Q') (hd : d' + 1 ≤ d) (h8 : (st.map fun v => v.category).sum ≤ 8)
    {st0 : List Value} (h0 : st0 = as.reverse ++ st)
    (kr : ∀ (r : Option Value) (w' : List jC), Q' (.inl r) w' → J X M d kc ks (pc + 3) L (r.toList ++ st) w' Q) (kx : ∀ (E : String) (w' : List jC), Q' (.inr E) w' → JX X M d kc ks pc L st w' E Q) : J X M d kc ks pc L st0 w Q :=
  J_callS hdg hz hl hst hn hM hd (Nat.zero_le _) (Nat.zero_le _) h8 h0 kr kx
theorem J_callSN0 {index d' n : Nat} {host : String} {z : jM} {as : List Value} {Q' : jQ} (hdg : decode M.2.1 pc = .ok (.invokestatic index, 3)) (hz : jCal z n) (hl : Cond.methodLinkNest M.1.cls index z.1 host ∈ jK) (hst : Cond.static z.1 ∈ jK) (hn : as.length = n) (hM : jMet X z d' 0 0 as w Q') (hd : d' + 1 ≤ d) (h8 : (st.map fun v => v.category).sum ≤ 8)
    {st0 : List Value} (h0 : st0 = as.reverse ++ st)
    (kr : ∀ (r : Option Value) (w' : List jC), Q' (.inl r) w' → J X M d kc ks (pc + 3) L (r.toList ++ st) w' Q) (kx : ∀ (E : String) (w' : List jC), Q' (.inr E) w' → JX X M d kc ks pc L st w' E Q) : J X M d kc ks pc L st0 w Q :=
  J_callSN hdg hz hl hst hn hM hd (Nat.zero_le _) (Nat.zero_le _) h8 h0 kr kx
theorem J_callV0 {index d' n a ci : Nat} {z : jM} {as fs : List Value} {q : vw_C} {Q' : jQ} (hdg : decode M.2.1 pc = .ok (.invokevirtual index, 3)) (hz : jCal z n) (hl : Cond.methodLink M.1.cls index z.1 ∈ jK) (hin : Cond.instanceMethod z.1 ∈ jK) (hse : Cond.selects z.1.cls z.1 z.1 ∈ jK) (hw : w[a]? = some (.inr (ci, fs))) (hci : ci < 99) (hc : vwCl[ci]? = some q) (hq : q.1 = z.1.cls) (hn : as.length = n) (hM : jMet X z d' 0 0 (.ref a :: as) w Q') (hd : d' + 1 ≤ d) (h8 : (st.map fun v => v.category).sum ≤ 8)
    {st0 : List Value} (h0 : st0 = as.reverse ++ .ref a :: st)
    (kr : ∀ (r : Option Value) (w' : List jC), Q' (.inl r) w' → J X M d kc ks (pc + 3) L (r.toList ++ st) w' Q) (kx : ∀ (E : String) (w' : List jC), Q' (.inr E) w' → JX X M d kc ks pc L st w' E Q) : J X M d kc ks pc L st0 w Q :=
  J_callV hdg hz hl hin hse hw hci hc hq hn hM hd (Nat.zero_le _) (Nat.zero_le _) h8 h0 kr kx
theorem J_callVN0 {index d' n a ci : Nat} {host : String} {z : jM} {as fs : List Value} {q : vw_C} {Q' : jQ} (hdg : decode M.2.1 pc = .ok (.invokevirtual index, 3)) (hz : jCal z n) (hl : Cond.methodLinkNest M.1.cls index z.1 host ∈ jK) (hin : Cond.instanceMethod z.1 ∈ jK) (hse : Cond.selects z.1.cls z.1 z.1 ∈ jK) (hw : w[a]? = some (.inr (ci, fs))) (hci : ci < 99) (hc : vwCl[ci]? = some q) (hq : q.1 = z.1.cls) (hn : as.length = n) (hM : jMet X z d' 0 0 (.ref a :: as) w Q') (hd : d' + 1 ≤ d) (h8 : (st.map fun v => v.category).sum ≤ 8)
    {st0 : List Value} (h0 : st0 = as.reverse ++ .ref a :: st)
    (kr : ∀ (r : Option Value) (w' : List jC), Q' (.inl r) w' → J X M d kc ks (pc + 3) L (r.toList ++ st) w' Q) (kx : ∀ (E : String) (w' : List jC), Q' (.inr E) w' → JX X M d kc ks pc L st w' E Q) : J X M d kc ks pc L st0 w Q :=
  J_callVN hdg hz hl hin hse hw hci hc hq hn hM hd (Nat.zero_le _) (Nat.zero_le _) h8 h0 kr kx
end JCALL0
/-- the classes above the two things that are thrown -/
def exN : List String := ["java/lang/RuntimeException", "java/lang/Exception"]
theorem nI_k2 {x : Int32} {b : Nat} (h2 : x < nI b) (hb : b < 2 ^ 31) (h1 : ¬ x < 0) : ∃ k, k < b ∧ x = nI k := nI_k hb h1 (Int32.not_le.mpr h2)
theorem nI_k1 {x : Int32} {b : Nat} (h2 : ¬ nI b ≤ x) (hb : b < 2 ^ 31) (h1 : ¬ x < 0) : ∃ k, k < b ∧ x = nI k := nI_k hb h1 h2
theorem nI_btw {x : Int32} {a b : Nat} (h1 : nI a ≤ x) (h2 : x ≤ nI b) (ha : a < 2 ^ 31) (hb : b < 2 ^ 31) : ∃ k, a ≤ k ∧ k ≤ b ∧ x = nI k := by
  have h0 : ¬ x < 0 := Int32.not_lt.mpr (Int32.le_trans (nI_pos' ha) h1)
  obtain ⟨j, hj, rfl⟩ := nI_of h0
  exact ⟨j, (nI_leI ha hj).mp h1, (nI_leI hj hb).mp h2, rfl⟩
/-- how far an int is from the greatest -/
def tI (x : Int32) : Nat := (2147483647 - x.toInt).toNat
theorem tI_dec {x y : Int32} (h : x < y) : tI (x + Int32.ofInt 1) < tI x := by
  have h1 := Int32.lt_iff_toInt_lt.mp h
  have h2 := y.toInt_lt
  have h3 := x.le_toInt
  have e : (x + Int32.ofInt 1).toInt = x.toInt + 1 := by
    rw [Int32.toInt_add]
    have : (Int32.ofInt 1).toInt = 1 := by decide
    rw [this]
    apply Int.bmod_eq_of_le <;> omega
  unfold tI
  rw [e]
  omega
/-- an end whose answer and world are told together -/
def pJ (R : Int32 → List jC → Prop) : jQ := fun o w => match o with
  | .inl (some (.int v)) => R v w
  | _ => False
section JPJ
variable {X : jX} {M : jM} {d kc ks pc : Nat} {L : List (Option Value)} {st as : List Value} {w : List jC} {Q : jQ}
theorem kr_J {R : Int32 → List jC → Prop} (k : ∀ (v : Int32) (w' : List jC), R v w' → J X M d kc ks pc L (.int v :: st) w' Q) : ∀ (r : Option Value) (w' : List jC), pJ R (.inl r) w' → J X M d kc ks pc L (r.toList ++ st) w' Q := by
  intro r w' h
  match r, h with
  | some (.int v), h => exact k v w' h
theorem kx_J {R : Int32 → List jC → Prop} : ∀ (E : String) (w' : List jC), pJ R (.inr E) w' → JX X M d kc ks pc L st w' E Q := fun _ _ h => h.elim
theorem jJX {R R' : Int32 → List jC → Prop} {RX RX' : String → List jC → Prop} (h : jMet X M d kc ks as w (pX (pJ R) RX)) (hR : ∀ v w', R v w' → R' v w') (hX : ∀ E w', RX E w' → RX' E w') : jMet X M d kc ks as w (pX (pJ R') RX') := h.mono (fun o w' hq => by
  match o, hq with
  | .inl (some (.int v)), hq => exact hR v w' hq
  | .inr E, hq => exact hX E w' hq)
theorem jJ {R R' : Int32 → List jC → Prop} (h : jMet X M d kc ks as w (pJ R)) (hR : ∀ v w', R v w' → R' v w') : jMet X M d kc ks as w (pJ R') := h.mono (fun o w' hq => by
  match o, hq with
  | .inl (some (.int v)), hq => exact hR v w' hq)
end JPJ
end
section
/-! pure mathematics of the reference: counts, numbers, rows, permutations -/
def up (f : Nat → Nat) (i v : Nat) : Nat → Nat := fun j => if j = i then v else f j
theorem up_s (f : Nat → Nat) (i v : Nat) : up f i v i = v := if_pos rfl
theorem up_n {f : Nat → Nat} {i v j : Nat} (h : j ≠ i) : up f i v j = f j := if_neg h
theorem up_b {f : Nat → Nat} {i v m : Nat} (h : ∀ j, f j < m) (hv : v < m) : ∀ j, up f i v j < m := by
  intro j
  unfold up
  split
  · exact hv
  · exact h j
def cnt (P : Nat → Bool) : Nat → Nat
  | 0 => 0
  | k + 1 => cnt P k + (if P k = true then 1 else 0)
theorem cnt_le (P : Nat → Bool) : ∀ k, cnt P k ≤ k
  | 0 => Nat.le_refl _
  | k + 1 => by
    have := cnt_le P k
    simp only [cnt]
    split <;> omega
theorem cnt_mono {P P' : Nat → Bool} : ∀ k, (∀ i, i < k → P' i = true → P i = true) → cnt P' k ≤ cnt P k
  | 0, _ => Nat.le_refl _
  | k + 1, h => by
    have h1 := cnt_mono k (fun i hi => h i (by omega))
    have h2 := h k (by omega)
    simp only [cnt]
    split
    · rename_i e
      rw [if_pos (h2 e)]
      omega
    · split <;> omega
theorem cnt_lt {P P' : Nat → Bool} : ∀ k, (∀ i, i < k → P' i = true → P i = true) → ∀ j, j < k → P j = true → P' j = false → cnt P' k < cnt P k
  | 0, _, j, hj, _, _ => absurd hj (Nat.not_lt_zero j)
  | k + 1, h, j, hj, a, b => by
    have h2 := h k (by omega)
    by_cases e : j = k
    · subst e
      have h1 := cnt_mono j (fun i hi => h i (by omega))
      simp only [cnt, a, b]
      simp
      omega
    · have h1 := cnt_lt k (fun i hi => h i (by omega)) j (by omega) a b
      simp only [cnt]
      split
      · rename_i e
        rw [if_pos (h2 e)]
        omega
      · split <;> omega
theorem cnt_pos {P : Nat → Bool} : ∀ k j, j < k → P j = true → 1 ≤ cnt P k
  | 0, j, hj, _ => absurd hj (Nat.not_lt_zero j)
  | k + 1, j, hj, a => by
    simp only [cnt]
    by_cases e : j = k
    · subst e
      rw [if_pos a]
      omega
    · have := cnt_pos k j (by omega) a
      omega
theorem cnt_ex {P : Nat → Bool} : ∀ k, 1 ≤ cnt P k → ∃ j, j < k ∧ P j = true
  | 0, h => by simp [cnt] at h
  | k + 1, h => by
    by_cases e : P k = true
    · exact ⟨k, by omega, e⟩
    · simp only [cnt, if_neg e] at h
      obtain ⟨j, h1, h2⟩ := cnt_ex k (by omega)
      exact ⟨j, by omega, h2⟩
theorem cnt_add {P Q : Nat → Bool} : ∀ k, (∀ i, i < k → P i = Q i) → cnt P k = cnt Q k
  | 0, _ => rfl
  | k + 1, h => by
    simp only [cnt]
    rw [cnt_add k (fun i hi => h i (by omega)), h k (by omega)]
/-- the least of its kind -/
theorem least {P : Nat → Prop} : ∀ K, P K → ∃ k, k ≤ K ∧ P k ∧ ∀ j, j < k → ¬ P j := by
  intro K
  induction K using Nat.strongRecOn with
  | ind K ih =>
    intro h
    by_cases e : ∃ j, j < K ∧ P j
    · obtain ⟨j, hj, hp⟩ := e
      obtain ⟨k, h1, h2, h3⟩ := ih j hj hp
      exact ⟨k, by omega, h2, h3⟩
    · exact ⟨K, Nat.le_refl _, h, fun j hj hp => e ⟨j, hj, hp⟩⟩
def fc : Nat → Nat
  | 0 => 1
  | k + 1 => fc k * (k + 1)
theorem fc_pos : ∀ k, 0 < fc k
  | 0 => Nat.one_pos
  | k + 1 => Nat.mul_pos (fc_pos k) (Nat.succ_pos k)
theorem fc_mono {a : Nat} : ∀ b, a ≤ b → fc a ≤ fc b
  | 0, h => by rw [Nat.le_zero.mp h]; exact Nat.le_refl _
  | b + 1, h => by
    by_cases e : a = b + 1
    · rw [e]; exact Nat.le_refl _
    · exact Nat.le_trans (fc_mono b (by omega)) (Nat.le_mul_of_pos_right _ (Nat.succ_pos b))
theorem fc_7 {n : Nat} (h : n ≤ 7) : fc n ≤ 5040 := Nat.le_trans (fc_mono 7 h) (by decide)
theorem fc_s {k : Nat} (h : 1 ≤ k) : fc (k - 1) * k = fc k := by
  obtain ⟨m, rfl⟩ : ∃ m, k = m + 1 := ⟨k - 1, by omega⟩
  rfl
/-- how many lesser ones are not ahead -/
def les (f : Nat → Nat) (fr p : Nat) : Nat → Nat
  | 0 => 0
  | q + 1 => les f fr p q + (if p < q ∧ f (fr + q) < f (fr + p) then 1 else 0)
theorem les_0 (f : Nat → Nat) (fr p : Nat) : ∀ q, q ≤ p + 1 → les f fr p q = 0
  | 0, _ => rfl
  | q + 1, h => by
    simp only [les]
    rw [les_0 f fr p q (by omega), if_neg (by omega)]
theorem les_le (f : Nat → Nat) (fr p : Nat) : ∀ q, les f fr p q ≤ q - 1 - p
  | 0 => Nat.zero_le _
  | q + 1 => by
    have := les_le f fr p q
    simp only [les]
    split <;> omega
def nuF (f : Nat → Nat) (fr n : Nat) : Nat → Nat
  | 0 => 0
  | p + 1 => nuF f fr n p * (n - p) + les f fr p n
theorem nuF_lt (f : Nat → Nat) (fr n : Nat) : ∀ p, p ≤ n → (nuF f fr n p + 1) * fc (n - p) ≤ fc n
  | 0, _ => by simp [nuF]
  | p + 1, h => by
    have h1 := nuF_lt f fr n p (by omega)
    have h2 := les_le f fr p n
    obtain ⟨m, hm⟩ : ∃ m, n - p = m + 1 := ⟨n - p - 1, by omega⟩
    have hm2 : n - (p + 1) = m := by omega
    rw [hm] at h1
    rw [hm2]
    simp only [nuF, hm]
    have h4 : nuF f fr n p * (m + 1) + les f fr p n + 1 ≤ (nuF f fr n p + 1) * (m + 1) := by
      rw [Nat.add_mul, Nat.one_mul]
      omega
    refine Nat.le_trans (Nat.mul_le_mul_right _ h4) (Nat.le_trans (Nat.le_of_eq ?_) h1)
    rw [Nat.mul_assoc, Nat.mul_comm (m + 1) (fc m)]
    rfl
theorem nuF_b (f : Nat → Nat) (fr n : Nat) : nuF f fr n n < fc n := by
  have := nuF_lt f fr n n (Nat.le_refl n)
  rw [Nat.sub_self] at this
  have e : (nuF f fr n n + 1) * fc 0 = nuF f fr n n + 1 := Nat.mul_one _
  omega
/-- the row of a number -/
def dg (num : Nat) : Nat → Nat
  | 0 => num
  | j + 1 => dg num j / (j + 1)
def rwA (n num : Nat) : Nat → Nat := fun p => dg num (n - 1 - p) % (n - p)
def ins (f : Nat → Nat) (p q : Nat) : Nat → Nat := fun i => if p < i ∧ i < q ∧ f p ≤ f i then f i + 1 else f i
def rwB (n num : Nat) : Nat → Nat → Nat
  | 0 => rwA n num
  | j + 1 => ins (rwB n num j) (n - 2 - j) n
def rwF (n num : Nat) : Nat → Nat := rwB n num (n - 1)
theorem rwB_spec (n num : Nat) : ∀ j, j + 1 ≤ n → (∀ i, i < n - 1 - j → rwB n num j i = rwA n num i) ∧ (∀ i, n - 1 - j ≤ i → i < n → rwB n num j i < j + 1) ∧ (∀ i k, n - 1 - j ≤ i → i < n → n - 1 - j ≤ k → k < n → rwB n num j i = rwB n num j k → i = k)
  | 0, h => by
    refine ⟨fun i _ => rfl, fun i h1 h2 => ?_, fun i k h1 h2 h3 h4 _ => by omega⟩
    have e : n - i = 1 := by omega
    show dg num (n - 1 - i) % (n - i) < 1
    rw [e]
    exact Nat.mod_lt _ (by omega)
  | j + 1, h => by
    obtain ⟨A, B, C⟩ := rwB_spec n num j (by omega)
    have hp : rwB n num j (n - 2 - j) = rwA n num (n - 2 - j) := A _ (by omega)
    have hp2 : rwA n num (n - 2 - j) < j + 2 := by
      have e : n - (n - 2 - j) = j + 2 := by omega
      show dg num _ % (n - (n - 2 - j)) < j + 2
      rw [e]
      exact Nat.mod_lt _ (by omega)
    rw [← hp] at hp2
    refine ⟨fun i h1 => ?_, fun i h1 h2 => ?_, fun i k h1 h2 h3 h4 e => ?_⟩
    · show ins (rwB n num j) (n - 2 - j) n i = _
      unfold ins
      rw [if_neg (by omega)]
      exact A i (by omega)
    · show ins (rwB n num j) (n - 2 - j) n i < _
      unfold ins
      by_cases e : i = n - 2 - j
      · subst e
        rw [if_neg (by omega)]
        exact hp2
      · have := B i (by omega) h2
        split <;> omega
    · have e' : ins (rwB n num j) (n - 2 - j) n i = ins (rwB n num j) (n - 2 - j) n k := e
      unfold ins at e'
      by_cases ei : i = n - 2 - j
      · by_cases ek : k = n - 2 - j
        · omega
        · rw [ei] at e'
          rw [if_neg (by omega)] at e'
          split at e' <;> omega
      · by_cases ek : k = n - 2 - j
        · rw [ek] at e'
          rw [if_neg (show ¬ (n - 2 - j < n - 2 - j ∧ n - 2 - j < n ∧ rwB n num j (n - 2 - j) ≤ rwB n num j (n - 2 - j)) by omega)] at e'
          split at e' <;> omega
        · have hc := C i k (by omega) h2 (by omega) h4
          split at e' <;> split at e' <;> omega
/-- a permutation of the first n -/
def Pn (n : Nat) (f : Nat → Nat) : Prop := (∀ p, p < n → f p < n) ∧ ∀ p q, p < n → q < n → f p = f q → p = q
theorem rwF_Pn {n num : Nat} (hn : 1 ≤ n) : Pn n (rwF n num) := by
  obtain ⟨_, B, C⟩ := rwB_spec n num (n - 1) (by omega)
  exact ⟨fun p hp => by have := B p (by omega) hp; show rwB n num (n - 1) p < n; omega, fun p q hp hq e => C p q (by omega) hp (by omega) hq e⟩
theorem Pn.congr {n : Nat} {f g : Nat → Nat} (h : Pn n f) (e : ∀ p, p < n → g p = f p) : Pn n g :=
  ⟨fun p hp => by rw [e p hp]; exact h.1 p hp, fun p q hp hq x => h.2 p q hp hq (by rw [← e p hp, ← e q hq]; exact x)⟩
theorem Pn.comp {n : Nat} {f g : Nat → Nat} (h : Pn n f) (h' : Pn n g) : Pn n (fun p => g (f p)) :=
  ⟨fun p hp => h'.1 _ (h.1 p hp), fun p q hp hq e => h.2 p q hp hq (h'.2 _ _ (h.1 p hp) (h.1 q hq) e)⟩
theorem inj_surj : ∀ (n : Nat) (f : Nat → Nat), Pn n f → ∀ v, v < n → ∃ p, p < n ∧ f p = v
  | 0, _, _, v, hv => absurd hv (Nat.not_lt_zero v)
  | n + 1, f, h, v, hv => by
    have hg : Pn n (fun p => if f p = n then f n else f p) := by
      refine ⟨fun p hp => ?_, fun p q hp hq e => ?_⟩
      · have h1 := h.1 p (by omega)
        have h2 := h.1 n (by omega)
        have h3 := h.2 p n (by omega) (by omega)
        show (if f p = n then f n else f p) < n
        split <;> omega
      · have h1 := h.2 p n (by omega) (by omega)
        have h2 := h.2 q n (by omega) (by omega)
        have h3 := h.2 p q (by omega) (by omega)
        have e' : (if f p = n then f n else f p) = (if f q = n then f n else f q) := e
        split at e' <;> split at e' <;> omega
    have ih := inj_surj n _ hg
    have hn1 := h.1 n (by omega)
    by_cases e1 : f n = v
    · exact ⟨n, by omega, e1⟩
    · by_cases e2 : v = n
      · obtain ⟨p, hp, e⟩ := ih (f n) (by omega)
        have e' : (if f p = n then f n else f p) = f n := e
        have h3 := h.2 p n (by omega) (by omega)
        refine ⟨p, by omega, ?_⟩
        split at e'
        · omega
        · omega
      · obtain ⟨p, hp, e⟩ := ih v (by omega)
        have e' : (if f p = n then f n else f p) = v := e
        refine ⟨p, by omega, ?_⟩
        split at e'
        · omega
        · exact e'
def it (f : Nat → Nat) : Nat → Nat → Nat
  | 0, p => p
  | k + 1, p => f (it f k p)
theorem it_add (f : Nat → Nat) (p : Nat) (b : Nat) : ∀ a, it f (a + b) p = it f a (it f b p)
  | 0 => by rw [Nat.zero_add]; rfl
  | a + 1 => by
    rw [show a + 1 + b = (a + b) + 1 by omega]
    show f (it f (a + b) p) = f (it f a (it f b p))
    rw [it_add f p b a]
theorem it_lt {n : Nat} {f : Nat → Nat} (h : Pn n f) {p : Nat} (hp : p < n) : ∀ k, it f k p < n
  | 0 => hp
  | k + 1 => h.1 _ (it_lt h hp k)
theorem it_inj {n : Nat} {f : Nat → Nat} (h : Pn n f) {p q : Nat} (hp : p < n) (hq : q < n) : ∀ k, it f k p = it f k q → p = q
  | 0, e => e
  | k + 1, e => it_inj h hp hq k (h.2 _ _ (it_lt h hp k) (it_lt h hq k) e)
theorem it_Pn {n : Nat} {f : Nat → Nat} (h : Pn n f) (k : Nat) : Pn n (it f k) :=
  ⟨fun _ hp => it_lt h hp k, fun _ _ hp hq e => it_inj h hp hq k e⟩
/-- each point comes back -/
theorem it_ret {n : Nat} {f : Nat → Nat} (h : Pn n f) {p : Nat} (hp : p < n) : ∃ K, 1 ≤ K ∧ K ≤ n ∧ it f K p = p ∧ ∀ j, 1 ≤ j → j < K → it f j p ≠ p := by
  have h1 : ∃ K, 1 ≤ K ∧ K ≤ n ∧ it f K p = p := by
    refine Classical.byContradiction fun hn => ?_
    have hg : Pn (n + 1) (fun k => it f k p) := by
      refine ⟨fun k _ => by have := it_lt h hp k; show it f k p < n + 1; omega, fun a b ha hb e => ?_⟩
      have e' : it f a p = it f b p := e
      refine Classical.byContradiction fun hab => ?_
      rcases Nat.lt_or_gt_of_ne hab with hl | hl
      · have e2 : it f (a + (b - a)) p = it f b p := by rw [show a + (b - a) = b by omega]
        rw [it_add] at e2
        have := it_inj h (it_lt h hp (b - a)) hp a (e2.trans e'.symm)
        exact hn ⟨b - a, by omega, by omega, this⟩
      · have e2 : it f (b + (a - b)) p = it f a p := by rw [show b + (a - b) = a by omega]
        rw [it_add] at e2
        have := it_inj h (it_lt h hp (a - b)) hp b (e2.trans e')
        exact hn ⟨a - b, by omega, by omega, this⟩
    obtain ⟨k, _, hk⟩ := inj_surj (n + 1) _ hg n (by omega)
    have := it_lt h hp k
    have hk' : it f k p = n := hk
    omega
  obtain ⟨K, a, b, c⟩ := h1
  obtain ⟨k, h1, h2, h3⟩ := least (P := fun k => 1 ≤ k ∧ it f k p = p) K ⟨a, c⟩
  exact ⟨k, h2.1, by omega, h2.2, fun j hj hjk e => h3 j hjk ⟨hj, e⟩⟩
theorem it_mul {f : Nat → Nat} {p K : Nat} (h : it f K p = p) : ∀ m, it f (K * m) p = p
  | 0 => rfl
  | m + 1 => by rw [Nat.mul_succ, it_add, h]; exact it_mul h m
theorem it_mod {f : Nat → Nat} {p K : Nat} (h : it f K p = p) (T : Nat) : it f (T % K) p = it f T p := by
  have e : it f (T % K + K * (T / K)) p = it f T p := by rw [Nat.mod_add_div]
  rw [it_add, it_mul h] at e
  exact e
/-- the six moves are permutations -/
def PM (n : Nat) (mv : Nat → Nat) : Prop := ∀ k, k < 6 → Pn n (fun p => mv (k * 7 + p))
/-- a move is laid -/
def stM (mv : Nat → Nat) (c m : Nat) (its : Nat → Nat) : Nat → Nat := fun i => if c * 7 ≤ i ∧ i < c * 7 + m then its (i - c * 7) else mv i
theorem stM_at {mv its : Nat → Nat} {c m p : Nat} (hp : p < m) : stM mv c m its (c * 7 + p) = its p := by
  unfold stM
  rw [if_pos (by omega), show c * 7 + p - c * 7 = p by omega]
theorem stM_ne {mv its : Nat → Nat} {c m k p : Nat} (hm : m ≤ 7) (hp : p < 7) (h : k ≠ c) : stM mv c m its (k * 7 + p) = mv (k * 7 + p) := by
  unfold stM
  rw [if_neg (by omega)]
theorem stM_PM {n c : Nat} {mv its : Nat → Nat} (hn : n ≤ 7) (h : PM n mv) (hi : Pn n its) : PM n (stM mv c n its) := by
  intro k hk
  by_cases e : k = c
  · subst e
    exact hi.congr (fun p hp => stM_at hp)
  · exact (h k hk).congr (fun p hp => stM_ne hn (by omega) e)
theorem stM_b {mv its : Nat → Nat} {c m : Nat} (h : ∀ i, mv i < 7) (h' : ∀ i, its i < 7) : ∀ i, stM mv c m its i < 7 := by
  intro i
  unfold stM
  split
  · exact h' _
  · exact h _
theorem stM_0 (mv its : Nat → Nat) (c : Nat) : stM mv c 0 its = mv := by
  funext i
  unfold stM
  rw [if_neg (by omega)]
theorem stM_s (mv its : Nat → Nat) (c m : Nat) : up (stM mv c m its) (c * 7 + m) (its m) = stM mv c (m + 1) its := by
  funext i
  unfold up stM
  by_cases e : i = c * 7 + m
  · subst e
    rw [if_pos rfl, if_pos (by omega), show c * 7 + m - c * 7 = m by omega]
  · rw [if_neg e]
    by_cases e2 : c * 7 ≤ i ∧ i < c * 7 + m
    · rw [if_pos e2, if_pos (by omega)]
    · rw [if_neg e2, if_neg (by omega)]
theorem PM_id {n : Nat} {mv : Nat → Nat} (hn : n ≤ 7) (h : ∀ k p, k < 6 → p < n → mv (k * 7 + p) = p) : PM n mv :=
  fun k hk => ⟨fun p hp => by show mv (k * 7 + p) < n; rw [h k p hk hp]; exact hp, fun p q hp hq e => by
    have e' : mv (k * 7 + p) = mv (k * 7 + q) := e
    rwa [h k p hk hp, h k q hk hq] at e'⟩
theorem Pn_id (n : Nat) : Pn n (fun p => p) := ⟨fun _ hp => hp, fun _ _ _ _ e => e⟩
theorem Pn_inv {n : Nat} {f g h : Nat → Nat} (hf : Pn n f) (hh : Pn n h) (e : ∀ p, p < n → g (f p) = h p) : Pn n g := by
  refine ⟨fun v hv => ?_, fun u v hu hv x => ?_⟩
  · obtain ⟨p, hp, rfl⟩ := inj_surj n f hf v hv
    rw [e p hp]
    exact hh.1 p hp
  · obtain ⟨p, hp, rfl⟩ := inj_surj n f hf u hu
    obtain ⟨q, hq, rfl⟩ := inj_surj n f hf v hv
    rw [e p hp, e q hq] at x
    rw [hh.2 p q hp hq x]
end
section
/-! the reference's cells, and rules over them -/
def aF (k : Nat) (f : Nat → Nat) : jC := .inl (0, (List.range k).map fun i => nI (f i))
theorem aF_get {k : Nat} {f : Nat → Nat} {i : Nat} (h : i < k) : ((List.range k).map fun i => nI (f i)).getD i 0 = nI (f i) := by
  rw [List.getD_eq_getElem?_getD, List.getElem?_map, List.getElem?_range h]
  rfl
theorem aF_set {k : Nat} {f : Nat → Nat} {i v : Nat} : ((List.range k).map fun i => nI (f i)).set i (nI v) = (List.range k).map fun j => nI (up f i v j) := by
  apply List.ext_getElem?
  intro j
  rw [List.getElem?_set, List.getElem?_map, List.getElem?_map, List.length_map, List.length_range]
  by_cases e : i = j
  · subst e
    rw [if_pos rfl]
    by_cases hk : i < k
    · rw [if_pos hk, List.getElem?_range hk]
      show some (nI v) = some (nI (up f i v i))
      rw [up_s]
    · rw [if_neg hk, List.getElem?_eq_none (by rw [List.length_range]; omega)]
      rfl
  · rw [if_neg e]
    by_cases hk : j < k
    · rw [List.getElem?_range hk]
      show some (nI (f j)) = some (nI (up f i v j))
      rw [up_n (fun q => e q.symm)]
    · rw [List.getElem?_eq_none (by rw [List.length_range]; omega)]
      rfl
theorem aF_0 (k : Nat) : (.inl (0, List.replicate k 0) : jC) = aF k (fun _ => 0) := by
  unfold aF
  rw [List.map_const', List.length_range]
  rfl
theorem aF_congr {k : Nat} {f g : Nat → Nat} (h : ∀ i, i < k → f i = g i) : aF k f = aF k g := by
  unfold aF
  congr 2
  exact List.map_congr_left (fun i hi => by rw [h i (List.mem_range.mp hi)])
theorem gl {w : List jC} {a : Nat} {c : jC} (h : w[a]? = some c) : a < w.length := (List.getElem?_eq_some_iff.mp h).1
abbrev RM (n : Nat) (mv rw nx : Nat → Nat) (b : Nat) (bt : List Int32) (kn en dn rf kk th : Int32) (w : List jC) : Prop :=
  w[19]? = some (.inr (9, [.int (nI n), .ref 20, .ref 21, .ref 22, .ref b, .int kn, .int en, .int dn, .int rf, .int kk, .int th])) ∧ w[20]? = some (aF 42 mv) ∧ w[21]? = some (aF 7 rw) ∧ w[22]? = some (aF 7 nx) ∧ w[b]? = some (.inl (0, bt)) ∧ bt.length = 158 ∧ 23 ≤ b
/-- what a call of the reference keeps: all but its own cells -/
def FR (b b' : Nat) (w w' : List jC) : Prop := w.length ≤ w'.length ∧ (b' = b ∨ w.length ≤ b') ∧ ∀ i, (i < 19 ∨ 23 ≤ i) → i ≠ b → i < w.length → w'[i]? = w[i]?
theorem FR.rf {b : Nat} {w : List jC} : FR b b w w := ⟨Nat.le_refl _, Or.inl rfl, fun _ _ _ _ => rfl⟩
theorem FR.tr {b b' b'' : Nat} {w w' w'' : List jC} (h : FR b b' w w') (h' : FR b' b'' w' w'') : FR b b'' w w'' := by
  refine ⟨Nat.le_trans h.1 h'.1, ?_, fun i h1 h2 h3 => ?_⟩
  · rcases h'.2.1 with e | e
    · rw [e]; exact h.2.1
    · exact Or.inr (Nat.le_trans h.1 e)
  · have h4 : i ≠ b' := by
      rcases h.2.1 with e | e
      · rw [e]; exact h2
      · omega
    exact (h'.2.2 i h1 h4 (Nat.lt_of_lt_of_le h3 h.1)).trans (h.2.2 i h1 h2 h3)
theorem FR.st {b b' a : Nat} {w w' w'' : List jC} (h : FR b b' w w') (hl : w''.length = w'.length) (hn : ∀ c, c ≠ a → w''[c]? = w'[c]?) (ha : (19 ≤ a ∧ a < 23) ∨ a = b' ∨ w.length ≤ a) : FR b b' w w'' := by
  refine ⟨by rw [hl]; exact h.1, h.2.1, fun i h1 h2 h3 => ?_⟩
  have h4 : i ≠ a := by
    rcases ha with e | e | e
    · omega
    · rcases h.2.1 with e2 | e2 <;> omega
    · omega
  exact (hn i h4).trans (h.2.2 i h1 h2 h3)
theorem FR.pu {b b' a : Nat} {w w' w'' : List jC} (h : FR b b' w w') (ha : a = w'.length) (hl : w''.length = a + 1) (hn : ∀ c, c < a → w''[c]? = w'[c]?) : FR b b' w w'' :=
  ⟨by have := h.1; omega, h.2.1, fun i h1 h2 h3 => (hn i (by have := h.1; omega)).trans (h.2.2 i h1 h2 h3)⟩
theorem FR.nb {b b' b'' : Nat} {w w' : List jC} (h : FR b b' w w') (hb : w.length ≤ b'') : FR b b'' w w' := ⟨h.1, Or.inr hb, h.2.2⟩
theorem FR.at {b b' a : Nat} {w w' : List jC} {c : jC} (h : FR b b' w w') (ha : w[a]? = some c) (h1 : 23 ≤ a) (h2 : a ≠ b) : w'[a]? = some c := (h.2.2 a (Or.inr h1) h2 (gl ha)).trans ha
theorem sh_of : ∀ {s : Nat}, s < 32 → ((nI s &&& 31).toBitVec.smod 32).toNat = s := by
  decide +kernel
section JREF
variable {X : jX} {M : jM} {d kc ks pc : Nat} {L : List (Option Value)} {st : List Value} {w : List jC} {Q : jQ}
theorem J_ialdF {a k i : Nat} {f : Nat → Nat} (hdg : decode M.2.1 pc = .ok (.iaload, 1)) (hw : w[a]? = some (aF k f)) (hi : i < k) (hk : k < 2 ^ 31) (kk : J X M d kc ks (pc + 1) L (.int (nI (f i)) :: st) w Q) : J X M d kc ks pc L (.int (nI i) :: .ref a :: st) w Q := by
  refine J_iald hdg hw (by rw [List.length_map, List.length_range]; exact nI_in hi hk) ?_
  rw [nI_clamp (by omega), aF_get hi]
  exact kk
theorem J_iastF {a k i v : Nat} {f : Nat → Nat} (hdg : decode M.2.1 pc = .ok (.iastore, 1)) (hw : w[a]? = some (aF k f)) (hi : i < k) (hk : k < 2 ^ 31)
    (kk : ∀ w' : List jC, w'.length = w.length → w'[a]? = some (aF k (up f i v)) → (∀ c, c ≠ a → w'[c]? = w[c]?) → J X M d kc ks (pc + 1) L st w' Q) : J X M d kc ks pc L (.int (nI v) :: .int (nI i) :: .ref a :: st) w Q := by
  refine J_iast hdg hw (by rw [List.length_map, List.length_range]; exact nI_in hi hk) ?_
  rw [nI_clamp (by omega), aF_set]
  exact kk _ List.length_set (List.getElem?_set_self (gl hw)) (fun c hc => List.getElem?_set_ne (fun e => hc e.symm))
theorem J_iastW {a : Nat} {xs : List Int32} {i x : Int32} (hdg : decode M.2.1 pc = .ok (.iastore, 1)) (hw : w[a]? = some (.inl (0, xs))) (hin : vp_in i xs.length)
    (kk : ∀ w' : List jC, w'.length = w.length → w'[a]? = some (.inl (0, xs.set i.toNatClampNeg x)) → (∀ c, c ≠ a → w'[c]? = w[c]?) → J X M d kc ks (pc + 1) L st w' Q) : J X M d kc ks pc L (.int x :: .int i :: .ref a :: st) w Q :=
  J_iast hdg hw hin (kk _ List.length_set (List.getElem?_set_self (gl hw)) (fun c hc => List.getElem?_set_ne (fun e => hc e.symm)))
theorem J_putW {ci : Nat} {C : String} {T : u_T} {N : Nat} {ty : Nat → FieldType} {index k a : Nat} {fs : List Value} {v : Value} (hdg : decode M.2.1 pc = .ok (.putfield index, 3)) (hC : jCl ci C T N ty) (hk : k < N) (hl : Cond.fieldLink M.1.cls index (T k).1 (T k).2.1 (T k).2.2.1 ∈ jK)
    (hfin : (T k).2.2.2 = false ∨ ((T k).2.2.2 = true ∧ M.1.name = "<init>" ∧ (T k).1 = M.1.cls)) (hfit : jFit (ty k) v) (hw : w[a]? = some (.inr (ci, fs))) (hlen : k < fs.length)
    (kk : ∀ w' : List jC, w'.length = w.length → w'[a]? = some (.inr (ci, fs.set k v)) → (∀ c, c ≠ a → w'[c]? = w[c]?) → J X M d kc ks (pc + 3) L st w' Q) : J X M d kc ks pc L (v :: .ref a :: st) w Q :=
  J_put hdg hC hk hl hfin hfit hw hlen (kk _ List.length_set (List.getElem?_set_self (gl hw)) (fun c hc => List.getElem?_set_ne (fun e => hc e.symm)))
theorem J_newW {n N : Nat} (hdg : decode M.2.1 pc = .ok (.newarray .int, 2)) (hc : Cond.arrayClass .int ∈ jK) (hn : n = N) (hb : N ≤ 10000) (hkc : 1 ≤ kc) (hks : N ≤ ks)
    (kk : ∀ (a : Nat) (w' : List jC), a = w.length → w'.length = a + 1 → w'[a]? = some (.inl (0, List.replicate N 0)) → (∀ c, c < a → w'[c]? = w[c]?) → J X M d (kc - 1) (ks - N) (pc + 2) L (.ref a :: st) w' Q) : J X M d kc ks pc L (.int (nI n) :: st) w Q := by
  subst hn
  refine J_newa (t := 0) hdg (by decide) rfl hc (nI_pos (by omega)) (nI_clamp (by omega)) (by omega) hkc hks ?_
  refine kk _ _ rfl (by rw [List.length_append]; rfl) ?_ (fun c hc => List.getElem?_append_left hc)
  rw [List.getElem?_append_right (Nat.le_refl _), Nat.sub_self]
  rfl
theorem J_ishrN {a s : Nat} (hdg : decode M.2.1 pc = .ok (.ishr, 1)) (ha : a < 2 ^ 31) (hs : s < 32) (k : J X M d kc ks (pc + 1) L (.int (nI (a / 2 ^ s)) :: st) w Q) : J X M d kc ks pc L (.int (nI s) :: .int (nI a) :: st) w Q :=
  J_ishr hdg (by
    rw [pk_shrN ha _ s (sh_of hs)]
    exact k)
theorem J_iandN {a m : Nat} (e : Nat) (hdg : decode M.2.1 pc = .ok (.iand, 1)) (ha : a < 2 ^ 31) (hm : (nI m).toBitVec.toNat = 2 ^ e - 1) (k : J X M d kc ks (pc + 1) L (.int (nI (a % 2 ^ e)) :: st) w Q) : J X M d kc ks pc L (.int (nI m) :: .int (nI a) :: st) w Q :=
  J_iand hdg (by
    rw [pk_andN (by omega) e hm]
    exact k)
theorem J_iushrN {a s : Nat} (hdg : decode M.2.1 pc = .ok (.iushr, 1)) (ha : a < 2 ^ 31) (hs : (((nI s).toUInt32 &&& Int32.toUInt32 31).toBitVec % 32).toNat = s) (k : J X M d kc ks (pc + 1) L (.int (nI (a / 2 ^ s)) :: st) w Q) : J X M d kc ks pc L (.int (nI s) :: .int (nI a) :: st) w Q :=
  J_iushr hdg (by
    rw [pk_ushrN (by omega) _ s hs]
    exact k)
theorem J_iand1 {a c : Nat} (hdg : decode M.2.1 pc = .ok (.iand, 1)) (ha : a < 2) (hc : c < 2) (k : J X M d kc ks (pc + 1) L (.int (nI (a * c)) :: st) w Q) : J X M d kc ks pc L (.int (nI c) :: .int (nI a) :: st) w Q :=
  J_iand hdg (by
    have e : nI a &&& nI c = nI (a * c) := by
      rcases (show a = 0 ∨ a = 1 by omega) with rfl | rfl <;> rcases (show c = 0 ∨ c = 1 by omega) with rfl | rfl <;> decide
    rw [e]
    exact k)
end JREF
end
section
/-! more pure mathematics: steps of rowOf, orders, bits -/
theorem nI_n1 (a : Nat) : nI a = nI (a + 1) + Int32.ofInt (-1) := (nI_m1 (a := a + 1) (by omega)).symm
def tV : Nat → Nat → Nat
  | 0, 0 => 0
  | _, _ => 1
def tW : Nat → Nat → Nat
  | 0, 0 => 0
  | 0, _ => 2
  | _, _ => 1
theorem ins_at {f : Nat → Nat} {p q : Nat} : ins f p q q = f q := by
  unfold ins
  rw [if_neg (by omega)]
theorem ins_step1 {f r : Nat → Nat} {p q n : Nat} (h : ∀ i, i < n → r i = ins f p q i) (hp : p < q) (hq : q < n) (hle : r p ≤ r q) : ∀ i, i < n → up r q (r q + 1) i = ins f p (q + 1) i := by
  intro i hi
  have h1 : r q = f q := (h q hq).trans ins_at
  have h2 : r p = f p := by
    rw [h p (by omega)]
    unfold ins
    rw [if_neg (by omega)]
  by_cases e : i = q
  · subst e
    rw [up_s]
    unfold ins
    rw [if_pos ⟨hp, by omega, by omega⟩, h1]
  · rw [up_n e, h i hi]
    unfold ins
    by_cases g : p < i ∧ i < q ∧ f p ≤ f i
    · rw [if_pos g, if_pos ⟨g.1, by omega, g.2.2⟩]
    · rw [if_neg g, if_neg (fun g2 => g ⟨g2.1, by omega, g2.2.2⟩)]
theorem ins_step0 {f r : Nat → Nat} {p q n : Nat} (h : ∀ i, i < n → r i = ins f p q i) (hp : p < q) (hq : q < n) (hlt : r q < r p) : ∀ i, i < n → r i = ins f p (q + 1) i := by
  intro i hi
  have h1 : r q = f q := (h q hq).trans ins_at
  have h2 : r p = f p := by
    rw [h p (by omega)]
    unfold ins
    rw [if_neg (by omega)]
  rw [h i hi]
  unfold ins
  by_cases g : p < i ∧ i < q ∧ f p ≤ f i
  · rw [if_pos g, if_pos ⟨g.1, by omega, g.2.2⟩]
  · rw [if_neg g, if_neg]
    intro g2
    by_cases e : i = q
    · subst e
      omega
    · exact g ⟨g2.1, by omega, g2.2.2⟩
theorem dvd420 : ∀ r, r < 8 → 1 ≤ r → r ∣ 420 := by decide
theorem ord_step {y r : Nat} (h1 : 1 ≤ y) (h2 : y ∣ 420) (hr : 1 ≤ r) (hr7 : r ≤ 7) : 0 < Nat.gcd y r ∧ 1 ≤ y / Nat.gcd y r * r ∧ y / Nat.gcd y r * r ∣ 420 := by
  have hg : 0 < Nat.gcd y r := Nat.gcd_pos_of_pos_left _ h1
  have e : y / Nat.gcd y r * r = Nat.lcm y r := by
    unfold Nat.lcm
    rw [Nat.div_mul_right_comm (Nat.gcd_dvd_left y r)]
  refine ⟨hg, ?_, ?_⟩
  · rw [e]
    exact Nat.lcm_pos h1 hr
  · rw [e]
    exact Nat.lcm_dvd h2 (dvd420 r (by omega) hr)
/-! bits -/
def bitL (g : List Int32) (k : Nat) : Bool := (g.getD (k / 32) 0).toBitVec.getLsbD (k % 32)
theorem par_bit (y : BitVec 32) : y.toNat % 2 ^ 1 = 1 ↔ y.getLsbD 0 = true := by
  show y.toNat % 2 = 1 ↔ y.toNat.testBit 0 = true
  rw [Nat.testBit_zero]
  simp
theorem bit_eq (g : List Int32) {k : Nat} (hk : k < 2 ^ 31) : (g.getD (nI (k / 2 ^ 5)).toNatClampNeg 0 >>> (nI (k % 2 ^ 5) &&& 31)) &&& nI 1 = nI 1 ↔ bitL g k = true := by
  have h5 : k % 2 ^ 5 < 32 := Nat.mod_lt _ (by decide)
  rw [nI_clamp (by omega), pk_and _ 1 (m := nI 1) (by decide), nI_eq (by omega) (by decide), par_bit, Int32.toBitVec_shiftRight, BitVec.sshiftRight_eq', sh_of h5, BitVec.getLsbD_sshiftRight]
  unfold bitL
  simp [h5]
theorem shl_bit {r : Nat} (h : r < 32) (i : Nat) (hi : i < 32) : (nI 1 <<< (nI r &&& 31)).toBitVec.getLsbD i = decide (r = i) := by
  rw [pk_shlN (n := 1) _ r (sh_of h) (by rw [Nat.one_mul]; exact Nat.pow_lt_pow_right (by decide) h), Nat.one_mul]
  show (BitVec.ofNat 32 (2 ^ r)).getLsbD i = _
  rw [BitVec.getLsbD_ofNat, Nat.testBit_two_pow]
  simp [hi]
/-- a bit is set -/
theorem bitL_or {g : List Int32} {j r : Nat} (hj : j < g.length) (hr : r < 32) (k : Nat) : bitL (g.set j (g.getD j 0 ||| nI 1 <<< (nI r &&& 31))) k = (bitL g k || decide (k = 32 * j + r)) := by
  unfold bitL
  have hk : k % 32 < 32 := Nat.mod_lt _ (by decide)
  rw [List.getD_eq_getElem?_getD, List.getElem?_set]
  by_cases e : j = k / 32
  · rw [if_pos e, if_pos hj]
    subst e
    show (g.getD (k / 32) 0 ||| nI 1 <<< (nI r &&& 31)).toBitVec.getLsbD (k % 32) = _
    rw [Int32.toBitVec_or, BitVec.getLsbD_or, shl_bit hr _ hk]
    congr 1
    have : (r = k % 32) ↔ (k = 32 * (k / 32) + r) := by omega
    simp only [this]
  · rw [if_neg e, ← List.getD_eq_getElem?_getD]
    have : ¬ k = 32 * j + r := by omega
    simp [this]
theorem bitL_or' {g : List Int32} {m : Nat} (hm : m < 5056) (hl : g.length = 158) (k : Nat) : bitL (g.set (nI (m / 2 ^ 5)).toNatClampNeg (g.getD (nI (m / 2 ^ 5)).toNatClampNeg 0 ||| nI 1 <<< (nI (m % 2 ^ 5) &&& 31))) k = (bitL g k || decide (k = m)) := by
  rw [nI_clamp (by omega), bitL_or (by omega) (Nat.mod_lt _ (by decide))]
  have e : 32 * (m / 2 ^ 5) + m % 2 ^ 5 = m := by omega
  rw [e]
theorem bitL_0 (n k : Nat) : bitL (List.replicate n 0) k = false := by
  unfold bitL
  rw [List.getD_eq_getElem?_getD, List.getElem?_replicate]
  split <;> simp
theorem bitL_1 {n : Nat} (hn : 0 < n) (k : Nat) : bitL ((List.replicate n 0).set 0 (nI 1)) k = decide (k = 0) := by
  have h := bitL_or (g := List.replicate n 0) (j := 0) (r := 0) (by rw [List.length_replicate]; exact hn) (by decide) k
  rw [bitL_0] at h
  have e : ((List.replicate n (0 : Int32)).getD 0 0 ||| nI 1 <<< (nI 0 &&& 31)) = nI 1 := by
    have : (List.replicate n (0 : Int32)).getD 0 0 = 0 := by
      rw [List.getD_eq_getElem?_getD, List.getElem?_replicate]
      split <;> rfl
    rw [this]
    decide
  rw [e] at h
  rw [h]
  simp
/-- all bits stand below m -/
def BU (m : Nat) (g : List Int32) : Prop := ∀ k, bitL g k = true → k < m
def BT (n : Nat) (g : List Int32) : Prop := BU (fc n) g ∧ bitL g 0 = true
def KB (n : Nat) (kn : Int32) (g : List Int32) : Prop := kn = (-1) ∨ BT n g
theorem BU.set {m j : Nat} {g : List Int32} (h : BU m g) (hj : j < m) (hj2 : j < 5056) (hl : g.length = 158) : BU m (g.set (nI (j / 2 ^ 5)).toNatClampNeg (g.getD (nI (j / 2 ^ 5)).toNatClampNeg 0 ||| nI 1 <<< (nI (j % 2 ^ 5) &&& 31))) := by
  intro k hk
  rw [bitL_or' hj2 hl] at hk
  rcases Bool.or_eq_true _ _ |>.mp hk with e | e
  · exact h k e
  · have := of_decide_eq_true e
    omega
theorem bitL_keep {j : Nat} {g : List Int32} (hj2 : j < 5056) (hl : g.length = 158) {k : Nat} (h : bitL g k = true) : bitL (g.set (nI (j / 2 ^ 5)).toNatClampNeg (g.getD (nI (j / 2 ^ 5)).toNatClampNeg 0 ||| nI 1 <<< (nI (j % 2 ^ 5) &&& 31))) k = true := by
  rw [bitL_or' hj2 hl, h]
  rfl
/-- how many bits are clear -/
def cz (g : List Int32) : Nat := cnt (fun k => !bitL g k) 5056
theorem cz_set {j : Nat} {g : List Int32} (hj2 : j < 5056) (hl : g.length = 158) (h : bitL g j = false) : cz (g.set (nI (j / 2 ^ 5)).toNatClampNeg (g.getD (nI (j / 2 ^ 5)).toNatClampNeg 0 ||| nI 1 <<< (nI (j % 2 ^ 5) &&& 31))) < cz g := by
  unfold cz
  refine cnt_lt 5056 (fun i _ hi => ?_) j hj2 (by rw [h]; rfl) (by rw [bitL_or' hj2 hl]; simp)
  rw [bitL_or' hj2 hl] at hi
  cases e : bitL g i
  · rfl
  · rw [e] at hi
    simp at hi
end
section
/-! methods of a class that has entries, that the machine has no entry for (java/lang/Math) -/
theorem vx_ofWF {l : Launch} {y : MethodName} {ws ws' : List Cond} {rm : Room} {Pc : Array Value → State → Prop} {Qc : Array Value → State → Outcome → State → Prop} {XC : String → State → State → Prop} {mc ms : Nat} {free : Addr → Prop} {cc : ByteArray} {maxL : Nat} {ret : Option FieldType}
    (hy : plainFor y = true) (hw : ws = Cond.code y cc maxL ret :: ws')
    (body : ∀ p e s m args below meth c s₁, BodyLoose p l y (headSpec ws rm) cc maxL ret e s m args below meth c s₁ → c.maxLocals = maxL → (∀ x ∈ c.exceptionTable.toList, False) → Pc args s →
      W p l e (headSpec ws rm).room s m args below meth c s.heap [] 0 0 (vx_MQ below Qc XC args s mc ms free) (entryFrame m args maxL)) : vx_Met l y ws rm Pc Qc XC mc ms free := by
  refine MetFree.of_bodySF (code := cc) (maxLocals := maxL) (ret := ret) hy ?_ ?_
  · intro args s m h hn
    obtain ⟨meth, c, h1, h2, h3, h4, h5, h6, -, -⟩ := Cond.code_spec hn (atoms_spec (ws := ws) h _ (by rw [hw]; exact List.mem_cons_self))
    exact ⟨meth, c, h1, h2, h3, h4, h5, h6⟩
  · intro p e s m args below meth c s₁ B hml hP _
    have hh0 : s₁.heap = s.heap := by rw [B.state]; rfl
    have ht : ∀ x ∈ c.exceptionTable.toList, False := by
      obtain ⟨meth9, c9, h1, h2, -, -, -, -, h7, -⟩ := Cond.code_spec B.named (atoms_spec (ws := ws) B.pre _ (by rw [hw]; exact List.mem_cons_self))
      cases Option.some.inj (h1.symm.trans B.method)
      cases Option.some.inj (h2.symm.trans (Stand.of_body B).code)
      intro x hx
      rw [Array.isEmpty_iff.mp h7] at hx
      cases hx
    obtain ⟨t, a1, o, b1, b2, b3⟩ := body p e s m args below meth c s₁ B hml ht hP s₁ hh0 (Stand.of_body B)
    exact ⟨t, o, a1, b1, b2, b3⟩
theorem jMet_ofF {X : jX} {M : jM} {d kc ks : Nat} {as : List Value} {w : List jC} {Q : jQ} (hs : X.1.stackTraces = false) (hp : plainFor M.1 = true) (hh : M.2.2.2.2 = []) (hn : (jEnt as).length ≤ M.2.2.1) {L : List (Option Value)} (hL : L = jEnt as ++ List.replicate (M.2.2.1 - (jEnt as).length) none) (h : J X M d kc ks 0 L [] w Q) : jMet X M d kc ks as w Q := by
  have hlen := lg_len X as
  obtain ⟨y, cc, nL, ret, hx⟩ := M
  cases (show hx = [] from hh)
  refine vx_ofWF (cc := cc) (maxL := nL) (ret := ret) hp rfl (fun p e s m args below meth c s₁ B hml ht hP => ?_)
  obtain ⟨rfl, hA, hH⟩ := hP
  rw [lg_entry_eq]
  have hnm := (name_of_methodNamed B.named B.method).1
  have hT : c.exceptionTable.toList = tableOf [] := by
    show c.exceptionTable.toList = []
    cases hq : c.exceptionTable.toList with
    | nil => rfl
    | cons a t => exact (ht a (by rw [hq]; exact List.mem_cons_self)).elim
  exact h p e (jR d kc ks) s m _ below meth c ⟨B.exec, B.bytes, hml, findClass_of_methodNamed B.named, B.returns, B.notSynchronized, hnm, hT, hA, hs, Nat.le_refl _, Nat.le_refl _⟩ s.heap [] 0 0 _ hH va_S.rf (jL_entry X (by rw [hlen]; exact hn) hL) (by show 0 + kc ≤ kc; omega) (by show 0 + ks ≤ ks; omega)
theorem mth_no : (natives.all fun r => !(r.cls == "java/lang/Math") || !(r.desc == "(I)I" || r.desc == "(II)I")) = true := by decide +kernel
theorem pf_of {x : MethodName} (hc : x.cls = "java/lang/Math") (hn : (x.desc == "(I)I" || x.desc == "(II)I") = true) : plainFor x = true := by
  have h0 : NativeRow.find? natives x.cls x.name x.desc = none := List.find?_eq_none.mpr (fun r hr e => by
    have h := List.all_eq_true.mp mth_no r hr
    rw [Bool.and_eq_true, Bool.and_eq_true, beq_iff_eq, beq_iff_eq, beq_iff_eq] at e
    rw [e.1.2, e.2, hc, hn] at h
    exact absurd h (by decide))
  unfold plainFor
  rw [h0]
  simp
theorem pf_J9_abs_0f7a4 : plainFor mJ9_abs_0f7a4.1 = true := pf_of rfl rfl
theorem pf_J9_floorMod_7cf53 : plainFor mJ9_floorMod_7cf53.1 = true := pf_of rfl rfl
theorem pf_J9_min_7cf53 : plainFor mJ9_min_7cf53.1 = true := pf_of rfl rfl
theorem pf_J9_max_7cf53 : plainFor mJ9_max_7cf53.1 = true := pf_of rfl rfl
end
