/-! shapes: what each place of a world may hold; frames: what is kept -/
def SH (ρ : List (jC → Prop)) (w : List jC) : Prop := ∀ (i : Nat) (p : jC → Prop), ρ[i]? = some p → ∃ c, w[i]? = some c ∧ p c
def Fr (K : Nat → Prop) (w w' : List jC) : Prop := w.length ≤ w'.length ∧ ∀ i, K i → i < w.length → w'[i]? = w[i]?
theorem Fr.rf {K : Nat → Prop} {w : List jC} : Fr K w w := ⟨Nat.le_refl _, fun _ _ _ => rfl⟩
theorem Fr.tr {K : Nat → Prop} {w w' w'' : List jC} (h : Fr K w w') (h' : Fr K w' w'') : Fr K w w'' := ⟨Nat.le_trans h.1 h'.1, fun i hi hl => (h'.2 i hi (Nat.lt_of_lt_of_le hl h.1)).trans (h.2 i hi hl)⟩
theorem Fr.mono {K K' : Nat → Prop} {w w' : List jC} (h : Fr K w w') (hk : ∀ i, K' i → K i) : Fr K' w w' := ⟨h.1, fun i hi hl => h.2 i (hk i hi) hl⟩
theorem Fr.set {K : Nat → Prop} {w : List jC} {a : Nat} {c : jC} (ha : ¬ K a) : Fr K w (w.set a c) := ⟨by rw [List.length_set]; exact Nat.le_refl _, fun i hi _ => List.getElem?_set_ne (fun e => ha (by rw [e]; exact hi))⟩
theorem Fr.push {K : Nat → Prop} {w : List jC} {cs : List jC} : Fr K w (w ++ cs) := ⟨by rw [List.length_append]; exact Nat.le_add_right _ _, fun _ _ hl => List.getElem?_append_left hl⟩
theorem SH.set {ρ : List (jC → Prop)} {w : List jC} {a : Nat} {p : jC → Prop} {c : jC} (h : SH ρ w) (hp : ρ[a]? = some p) (hc : p c) : SH ρ (w.set a c) := by
  intro i q hq
  by_cases e : i = a
  · subst e
    obtain ⟨c0, h0, -⟩ := h i p hp
    rw [hp] at hq
    cases hq
    exact ⟨c, List.getElem?_set_self (List.getElem?_eq_some_iff.mp h0).1, hc⟩
  · obtain ⟨c0, h0, h1⟩ := h i q hq
    exact ⟨c0, by rw [List.getElem?_set_ne (fun z => e z.symm)]; exact h0, h1⟩
theorem SH.push {ρ : List (jC → Prop)} {w : List jC} {cs : List jC} (h : SH ρ w) : SH ρ (w ++ cs) := by
  intro i q hq
  obtain ⟨c0, h0, h1⟩ := h i q hq
  exact ⟨c0, by rw [List.getElem?_append_left (List.getElem?_eq_some_iff.mp h0).1]; exact h0, h1⟩
theorem SH.keep {ρ : List (jC → Prop)} {w w' : List jC} (h : SH ρ w) (hk : ∀ i, i < ρ.length → w'[i]? = w[i]?) : SH ρ w' := by
  intro i q hq
  obtain ⟨c0, h0, h1⟩ := h i q hq
  exact ⟨c0, by rw [hk i (List.getElem?_eq_some_iff.mp hq).1]; exact h0, h1⟩
def tA (k : Nat) : jC → Prop := fun c => ∃ xs : List Int32, c = .inl (0, xs) ∧ xs.length = k
section JSHAPE
variable {X : jX} {M : jM} {d kc ks pc : Nat} {L : List (Option Value)} {st : List Value} {w : List jC} {Q : jQ} {ρ : List (jC → Prop)} {p : jC → Prop}
theorem J_iastS {a : Nat} {xs : List Int32} {i x : Int32} (K : Nat → Prop) (hdg : decode M.2.1 pc = .ok (.iastore, 1)) (hS : SH ρ w) (hw : w[a]? = some (.inl (0, xs))) (hin : vp_in i xs.length) (hp : ρ[a]? = some p) (hok : p (.inl (0, xs.set i.toNatClampNeg x))) (hK : ¬ K a)
    (kk : ∀ w' : List jC, SH ρ w' → w'[a]? = some (.inl (0, xs.set i.toNatClampNeg x)) → (∀ b, b ≠ a → w'[b]? = w[b]?) → Fr K w w' → J X M d kc ks (pc + 1) L st w' Q) : J X M d kc ks pc L (.int x :: .int i :: .ref a :: st) w Q :=
  J_iast hdg hw hin (kk _ (hS.set hp hok) (List.getElem?_set_self (List.getElem?_eq_some_iff.mp hw).1) (fun b hb => List.getElem?_set_ne (fun e => hb e.symm)) (Fr.set hK))
theorem J_putS {ci : Nat} {C : String} {T : u_T} {N : Nat} {ty : Nat → FieldType} {index k a : Nat} {fs : List Value} {v : Value} (K : Nat → Prop) (hdg : decode M.2.1 pc = .ok (.putfield index, 3)) (hC : jCl ci C T N ty) (hk : k < N) (hl : Cond.fieldLink M.1.cls index (T k).1 (T k).2.1 (T k).2.2.1 ∈ jK)
    (hfin : (T k).2.2.2 = false ∨ ((T k).2.2.2 = true ∧ M.1.name = "<init>" ∧ (T k).1 = M.1.cls)) (hfit : jFit (ty k) v)
    (hS : SH ρ w) (hw : w[a]? = some (.inr (ci, fs))) (hlen : k < fs.length) (hp : ρ[a]? = some p) (hok : p (.inr (ci, fs.set k v))) (hK : ¬ K a)
    (kk : ∀ w' : List jC, SH ρ w' → w'[a]? = some (.inr (ci, fs.set k v)) → (∀ b, b ≠ a → w'[b]? = w[b]?) → Fr K w w' → J X M d kc ks (pc + 3) L st w' Q) : J X M d kc ks pc L (v :: .ref a :: st) w Q :=
  J_put hdg hC hk hl hfin hfit hw hlen (kk _ (hS.set hp hok) (List.getElem?_set_self (List.getElem?_eq_some_iff.mp hw).1) (fun b hb => List.getElem?_set_ne (fun e => hb e.symm)) (Fr.set hK))
end JSHAPE
/-- the class's cells -/
def rX (n : Nat) (e r q : Int32) : List (jC → Prop) := [
  (fun c => c = .inr (7, [.ref 1, .ref 2, .ref 8, .ref 12, .ref 14, .int (nI n), .int e, .int r, .int q])),
  tA 6,
  (fun c => ∃ (a f : Nat) (b g : Int32), c = .inr (2, [.ref 3, .ref 4, .ref 5, .ref 6, .ref 7, .int (nI a), .int b, .int g, .int (nI f)]) ∧ a ≤ 21 ∧ f ≤ 7),
  tA 64, tA 64, tA 8, tA 8, tA 21,
  (fun c => ∃ a : Nat, c = .inr (6, [.ref 9, .int (nI a)]) ∧ a ≤ 7),
  (fun c => ∃ a : Nat, c = .inr (3, [.ref 10, .ref 11, .int (nI a)]) ∧ a ≤ 5040),
  tA 5040, tA 158,
  (fun c => ∃ a : Nat, c = .inr (5, [.ref 13, .int (nI a)]) ∧ a ≤ 7),
  tA 8,
  (fun c => ∃ a b : Nat, c = .inr (4, [.ref 15, .ref 18, .int (nI a), .int (nI b)]) ∧ 1 ≤ a ∧ a ≤ 3 ∧ b ≤ 7),
  (fun c => ∃ a : Nat, c = .inr (3, [.ref 16, .ref 17, .int (nI a)]) ∧ a ≤ 2187),
  tA 2187, tA 69, tA 8]
/-- what calls of the class keep -/
abbrev kX (i : Nat) : Prop := i = 1 ∨ 19 ≤ i
/-- a call of the class that keeps the house's own numbers -/
def rS (n : Nat) (e r q : Int32) (w w' : List jC) : Prop := SH (rX n e r q) w' ∧ Fr kX w w'
section JSHAPE2
variable {X : jX} {M : jM} {d kc ks pc : Nat} {L : List (Option Value)} {st : List Value} {w : List jC} {Q : jQ}
theorem SH.lt {ρ : List (jC → Prop)} {w : List jC} (h : SH ρ w) {a : Nat} (ha : a < ρ.length) : a < w.length := by
  obtain ⟨c, hc, -⟩ := h a _ (List.getElem?_eq_getElem ha)
  exact (List.getElem?_eq_some_iff.mp hc).1
theorem rX_0 {n n' : Nat} {e r q e' r' q' : Int32} {w : List jC} (h : SH (rX n e r q) w) : SH (rX n' e' r' q') (w.set 0 (.inr (7, [.ref 1, .ref 2, .ref 8, .ref 12, .ref 14, .int (nI n'), .int e', .int r', .int q']))) := by
  intro i p hp
  have h0 : 0 < w.length := h.lt (by show 0 < 19; decide)
  cases i with
  | zero =>
    cases hp
    exact ⟨_, List.getElem?_set_self h0, rfl⟩
  | succ i =>
    obtain ⟨c, hc, h2⟩ := h (i + 1) p hp
    exact ⟨c, by rw [List.getElem?_set_ne (by omega)]; exact hc, h2⟩
/-- a field of the house itself is stored -/
theorem J_put0 {T : u_T} {N : Nat} {ty : Nat → FieldType} {C : String} {index k n n' : Nat} {e r q e' r' q' : Int32} {v : Value} (hdg : decode M.2.1 pc = .ok (.putfield index, 3)) (hC : jCl 7 C T N ty) (hk : k < N) (hl : Cond.fieldLink M.1.cls index (T k).1 (T k).2.1 (T k).2.2.1 ∈ jK)
    (hfin : (T k).2.2.2 = false ∨ ((T k).2.2.2 = true ∧ M.1.name = "<init>" ∧ (T k).1 = M.1.cls)) (hfit : jFit (ty k) v)
    (hS : SH (rX n e r q) w) (hlen : k < 9) (he : ([.ref 1, .ref 2, .ref 8, .ref 12, .ref 14, .int (nI n), .int e, .int r, .int q] : List Value).set k v = [.ref 1, .ref 2, .ref 8, .ref 12, .ref 14, .int (nI n'), .int e', .int r', .int q'])
    (kk : ∀ w' : List jC, SH (rX n' e' r' q') w' → (∀ b, b ≠ 0 → w'[b]? = w[b]?) → Fr kX w w' → J X M d kc ks (pc + 3) L st w' Q) : J X M d kc ks pc L (v :: .ref 0 :: st) w Q := by
  obtain ⟨c, hc, rfl⟩ := hS 0 _ rfl
  refine J_put hdg hC hk hl hfin hfit hc (by simpa using hlen) ?_
  rw [he]
  exact kk _ (rX_0 hS) (fun b hb => List.getElem?_set_ne (fun e => hb e.symm)) (Fr.set (by decide : ¬ kX 0))
end JSHAPE2
