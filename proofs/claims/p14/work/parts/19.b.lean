/-! the reference's cells, and rules over them -/
def aF (k : Nat) (f : Nat → Nat) : jC := .inl (0, (List.range k).map fun i => nI (f i))
theorem aF_get {k : Nat} {f : Nat → Nat} {i : Nat} (h : i < k) : ((List.range k).map fun i => nI (f i)).getD i 0 = nI (f i) := by
  rw [List.getD_eq_getElem?_getD, List.getElem?_map, List.getElem?_range h]
  rfl
theorem aF_set {k : Nat} {f : Nat → Nat} {i v : Nat} : ((List.range k).map fun i => nI (f i)).set i (nI v) = (List.range k).map fun j => nI (up f i v j) := by
  apply List.ext_getElem?
  intro j
  rw [List.getElem?_set, List.getElem?_map, List.getElem?_map, List.length_map, List.length_range]
  by_cases e : i = j
  · subst e
    rw [if_pos rfl]
    by_cases hk : i < k
    · rw [if_pos hk, List.getElem?_range hk]
      show some (nI v) = some (nI (up f i v i))
      rw [up_s]
    · rw [if_neg hk, List.getElem?_eq_none (by rw [List.length_range]; omega)]
      rfl
  · rw [if_neg e]
    by_cases hk : j < k
    · rw [List.getElem?_range hk]
      show some (nI (f j)) = some (nI (up f i v j))
      rw [up_n (fun q => e q.symm)]
    · rw [List.getElem?_eq_none (by rw [List.length_range]; omega)]
      rfl
theorem aF_0 (k : Nat) : (.inl (0, List.replicate k 0) : jC) = aF k (fun _ => 0) := by
  unfold aF
  rw [List.map_const', List.length_range]
  rfl
theorem aF_congr {k : Nat} {f g : Nat → Nat} (h : ∀ i, i < k → f i = g i) : aF k f = aF k g := by
  unfold aF
  congr 2
  exact List.map_congr_left (fun i hi => by rw [h i (List.mem_range.mp hi)])
theorem gl {w : List jC} {a : Nat} {c : jC} (h : w[a]? = some c) : a < w.length := (List.getElem?_eq_some_iff.mp h).1
abbrev RM (n : Nat) (mv rw nx : Nat → Nat) (b : Nat) (bt : List Int32) (kn en dn rf kk th : Int32) (w : List jC) : Prop :=
  w[19]? = some (.inr (9, [.int (nI n), .ref 20, .ref 21, .ref 22, .ref b, .int kn, .int en, .int dn, .int rf, .int kk, .int th])) ∧ w[20]? = some (aF 42 mv) ∧ w[21]? = some (aF 7 rw) ∧ w[22]? = some (aF 7 nx) ∧ w[b]? = some (.inl (0, bt)) ∧ bt.length = 158 ∧ 23 ≤ b
/-- what a call of the reference keeps: all but its own cells -/
def FR (b b' : Nat) (w w' : List jC) : Prop := w.length ≤ w'.length ∧ (b' = b ∨ w.length ≤ b') ∧ ∀ i, (i < 19 ∨ 23 ≤ i) → i ≠ b → i < w.length → w'[i]? = w[i]?
theorem FR.rf {b : Nat} {w : List jC} : FR b b w w := ⟨Nat.le_refl _, Or.inl rfl, fun _ _ _ _ => rfl⟩
theorem FR.tr {b b' b'' : Nat} {w w' w'' : List jC} (h : FR b b' w w') (h' : FR b' b'' w' w'') : FR b b'' w w'' := by
  refine ⟨Nat.le_trans h.1 h'.1, ?_, fun i h1 h2 h3 => ?_⟩
  · rcases h'.2.1 with e | e
    · rw [e]; exact h.2.1
    · exact Or.inr (Nat.le_trans h.1 e)
  · have h4 : i ≠ b' := by
      rcases h.2.1 with e | e
      · rw [e]; exact h2
      · omega
    exact (h'.2.2 i h1 h4 (Nat.lt_of_lt_of_le h3 h.1)).trans (h.2.2 i h1 h2 h3)
theorem FR.st {b b' a : Nat} {w w' w'' : List jC} (h : FR b b' w w') (hl : w''.length = w'.length) (hn : ∀ c, c ≠ a → w''[c]? = w'[c]?) (ha : (19 ≤ a ∧ a < 23) ∨ a = b' ∨ w.length ≤ a) : FR b b' w w'' := by
  refine ⟨by rw [hl]; exact h.1, h.2.1, fun i h1 h2 h3 => ?_⟩
  have h4 : i ≠ a := by
    rcases ha with e | e | e
    · omega
    · rcases h.2.1 with e2 | e2 <;> omega
    · omega
  exact (hn i h4).trans (h.2.2 i h1 h2 h3)
theorem FR.pu {b b' a : Nat} {w w' w'' : List jC} (h : FR b b' w w') (ha : a = w'.length) (hl : w''.length = a + 1) (hn : ∀ c, c < a → w''[c]? = w'[c]?) : FR b b' w w'' :=
  ⟨by have := h.1; omega, h.2.1, fun i h1 h2 h3 => (hn i (by have := h.1; omega)).trans (h.2.2 i h1 h2 h3)⟩
theorem FR.nb {b b' b'' : Nat} {w w' : List jC} (h : FR b b' w w') (hb : w.length ≤ b'') : FR b b'' w w' := ⟨h.1, Or.inr hb, h.2.2⟩
theorem FR.at {b b' a : Nat} {w w' : List jC} {c : jC} (h : FR b b' w w') (ha : w[a]? = some c) (h1 : 23 ≤ a) (h2 : a ≠ b) : w'[a]? = some c := (h.2.2 a (Or.inr h1) h2 (gl ha)).trans ha
theorem sh_of : ∀ {s : Nat}, s < 32 → ((nI s &&& 31).toBitVec.smod 32).toNat = s := by
  decide +kernel
section JREF
variable {X : jX} {M : jM} {d kc ks pc : Nat} {L : List (Option Value)} {st : List Value} {w : List jC} {Q : jQ}
theorem J_ialdF {a k i : Nat} {f : Nat → Nat} (hdg : decode M.2.1 pc = .ok (.iaload, 1)) (hw : w[a]? = some (aF k f)) (hi : i < k) (hk : k < 2 ^ 31) (kk : J X M d kc ks (pc + 1) L (.int (nI (f i)) :: st) w Q) : J X M d kc ks pc L (.int (nI i) :: .ref a :: st) w Q := by
  refine J_iald hdg hw (by rw [List.length_map, List.length_range]; exact nI_in hi hk) ?_
  rw [nI_clamp (by omega), aF_get hi]
  exact kk
theorem J_iastF {a k i v : Nat} {f : Nat → Nat} (hdg : decode M.2.1 pc = .ok (.iastore, 1)) (hw : w[a]? = some (aF k f)) (hi : i < k) (hk : k < 2 ^ 31)
    (kk : ∀ w' : List jC, w'.length = w.length → w'[a]? = some (aF k (up f i v)) → (∀ c, c ≠ a → w'[c]? = w[c]?) → J X M d kc ks (pc + 1) L st w' Q) : J X M d kc ks pc L (.int (nI v) :: .int (nI i) :: .ref a :: st) w Q := by
  refine J_iast hdg hw (by rw [List.length_map, List.length_range]; exact nI_in hi hk) ?_
  rw [nI_clamp (by omega), aF_set]
  exact kk _ List.length_set (List.getElem?_set_self (gl hw)) (fun c hc => List.getElem?_set_ne (fun e => hc e.symm))
theorem J_iastW {a : Nat} {xs : List Int32} {i x : Int32} (hdg : decode M.2.1 pc = .ok (.iastore, 1)) (hw : w[a]? = some (.inl (0, xs))) (hin : vp_in i xs.length)
    (kk : ∀ w' : List jC, w'.length = w.length → w'[a]? = some (.inl (0, xs.set i.toNatClampNeg x)) → (∀ c, c ≠ a → w'[c]? = w[c]?) → J X M d kc ks (pc + 1) L st w' Q) : J X M d kc ks pc L (.int x :: .int i :: .ref a :: st) w Q :=
  J_iast hdg hw hin (kk _ List.length_set (List.getElem?_set_self (gl hw)) (fun c hc => List.getElem?_set_ne (fun e => hc e.symm)))
theorem J_putW {ci : Nat} {C : String} {T : u_T} {N : Nat} {ty : Nat → FieldType} {index k a : Nat} {fs : List Value} {v : Value} (hdg : decode M.2.1 pc = .ok (.putfield index, 3)) (hC : jCl ci C T N ty) (hk : k < N) (hl : Cond.fieldLink M.1.cls index (T k).1 (T k).2.1 (T k).2.2.1 ∈ jK)
    (hfin : (T k).2.2.2 = false ∨ ((T k).2.2.2 = true ∧ M.1.name = "<init>" ∧ (T k).1 = M.1.cls)) (hfit : jFit (ty k) v) (hw : w[a]? = some (.inr (ci, fs))) (hlen : k < fs.length)
    (kk : ∀ w' : List jC, w'.length = w.length → w'[a]? = some (.inr (ci, fs.set k v)) → (∀ c, c ≠ a → w'[c]? = w[c]?) → J X M d kc ks (pc + 3) L st w' Q) : J X M d kc ks pc L (v :: .ref a :: st) w Q :=
  J_put hdg hC hk hl hfin hfit hw hlen (kk _ List.length_set (List.getElem?_set_self (gl hw)) (fun c hc => List.getElem?_set_ne (fun e => hc e.symm)))
theorem J_newW {n N : Nat} (hdg : decode M.2.1 pc = .ok (.newarray .int, 2)) (hc : Cond.arrayClass .int ∈ jK) (hn : n = N) (hb : N ≤ 10000) (hkc : 1 ≤ kc) (hks : N ≤ ks)
    (kk : ∀ (a : Nat) (w' : List jC), a = w.length → w'.length = a + 1 → w'[a]? = some (.inl (0, List.replicate N 0)) → (∀ c, c < a → w'[c]? = w[c]?) → J X M d (kc - 1) (ks - N) (pc + 2) L (.ref a :: st) w' Q) : J X M d kc ks pc L (.int (nI n) :: st) w Q := by
  subst hn
  refine J_newa (t := 0) hdg (by decide) rfl hc (nI_pos (by omega)) (nI_clamp (by omega)) (by omega) hkc hks ?_
  refine kk _ _ rfl (by rw [List.length_append]; rfl) ?_ (fun c hc => List.getElem?_append_left hc)
  rw [List.getElem?_append_right (Nat.le_refl _), Nat.sub_self]
  rfl
theorem J_ishrN {a s : Nat} (hdg : decode M.2.1 pc = .ok (.ishr, 1)) (ha : a < 2 ^ 31) (hs : s < 32) (k : J X M d kc ks (pc + 1) L (.int (nI (a / 2 ^ s)) :: st) w Q) : J X M d kc ks pc L (.int (nI s) :: .int (nI a) :: st) w Q :=
  J_ishr hdg (by
    rw [pk_shrN ha _ s (sh_of hs)]
    exact k)
theorem J_iandN {a m : Nat} (e : Nat) (hdg : decode M.2.1 pc = .ok (.iand, 1)) (ha : a < 2 ^ 31) (hm : (nI m).toBitVec.toNat = 2 ^ e - 1) (k : J X M d kc ks (pc + 1) L (.int (nI (a % 2 ^ e)) :: st) w Q) : J X M d kc ks pc L (.int (nI m) :: .int (nI a) :: st) w Q :=
  J_iand hdg (by
    rw [pk_andN (by omega) e hm]
    exact k)
theorem J_iushrN {a s : Nat} (hdg : decode M.2.1 pc = .ok (.iushr, 1)) (ha : a < 2 ^ 31) (hs : (((nI s).toUInt32 &&& Int32.toUInt32 31).toBitVec % 32).toNat = s) (k : J X M d kc ks (pc + 1) L (.int (nI (a / 2 ^ s)) :: st) w Q) : J X M d kc ks pc L (.int (nI s) :: .int (nI a) :: st) w Q :=
  J_iushr hdg (by
    rw [pk_ushrN (by omega) _ s hs]
    exact k)
theorem J_iand1 {a c : Nat} (hdg : decode M.2.1 pc = .ok (.iand, 1)) (ha : a < 2) (hc : c < 2) (k : J X M d kc ks (pc + 1) L (.int (nI (a * c)) :: st) w Q) : J X M d kc ks pc L (.int (nI c) :: .int (nI a) :: st) w Q :=
  J_iand hdg (by
    have e : nI a &&& nI c = nI (a * c) := by
      rcases (show a = 0 ∨ a = 1 by omega) with rfl | rfl <;> rcases (show c = 0 ∨ c = 1 by omega) with rfl | rfl <;> decide
    rw [e]
    exact k)
end JREF
