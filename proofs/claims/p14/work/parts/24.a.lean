/-! private methods of a super class; texts under way -/
theorem jsel_private {C : String} {x0 y0 y : MethodName} {s : State} {args : Array Value} (hy : y.cls ≠ "java/lang/invoke/MethodHandle" ∧ y.cls ≠ "java/lang/invoke/VarHandle") (h0 : (Cond.selects C x0 y0).before args s = true) (e : y0.cls = y.cls)
    (hpriv : (Cond.privateMethod y).before args s = true) (hinst : (Cond.instanceMethod y).before args s = true) : (Cond.selects C y y).before args s = true := by
  obtain ⟨c, r, m0, q1, q2, q3, q4, mk0, q5, q6⟩ := Cond.selects_spec h0
  obtain ⟨mk, methM, hnamed, hmethM, -, -⟩ := Cond.instanceMethod_spec hinst
  have hfound : s.methodFound? y.cls y.name y.desc = some mk := State.methodFound?_of_named hnamed hy
  have hcls : mk.cls = m0.cls := Option.some.inj ((findClass_of_methodNamed hnamed).symm.trans (by rw [← e]; exact findClass_of_methodNamed q3))
  have hsel : selectMethod {} s.vm c mk = .method mk := selectMethod_private hmethM (Cond.privateMethod_at hpriv mk methM hnamed hmethM)
  simp only [Cond.before, Cond.holds, Cond.value, q1, hfound, hnamed, hsel, hcls, q5]
  simp
  exact q6
theorem fp_J5_ensure : Cond.privateMethod yJ5_ensureCapacityInternal_d00df ∈ jK := jK_of 610 (by decide +kernel) rfl
theorem fp_J5_newCap : Cond.privateMethod yJ5_newCapacity_0f7a4 ∈ jK := jK_of 614 (by decide +kernel) rfl
theorem fp_J5_putStringAt : Cond.privateMethod yJ5_putStringAt_47b60 ∈ jK := jK_of 795 (by decide +kernel) rfl
theorem fp_J5_inflateIf : Cond.privateMethod yJ5_inflateIfNeededFor_a7421 ∈ jK := jK_of 799 (by decide +kernel) rfl
section JSB0
variable {X : jX} {M : jM} {d kc ks pc : Nat} {L : List (Option Value)} {st : List Value} {w : List jC} {Q : jQ}
theorem J_callP {index d' kc' ks' n a ci : Nat} {x0 y0 : MethodName} {z : jM} {as fs : List Value} {q : vw_C} {Q' : jQ} (hdg : decode M.2.1 pc = .ok (.invokevirtual index, 3)) (hz : jCal z n) (hl : Cond.methodLink M.1.cls index z.1 ∈ jK) (hsm : Cond.sameMethod z.1.cls z.1.cls z.1.name z.1.desc ∈ jK) (hin : Cond.instanceMethod z.1 ∈ jK) (hpr : Cond.privateMethod z.1 ∈ jK) (hse : Cond.selects q.1 x0 y0 ∈ jK) (hy0 : y0.cls = z.1.cls) (hw : w[a]? = some (.inr (ci, fs))) (hci : ci < 99) (hc : vwCl[ci]? = some q) (hn : as.length = n) (hM : jMet X z d' kc' ks' (.ref a :: as) w Q') (hd : d' + 1 ≤ d) (hkc : kc' ≤ kc) (hks : ks' ≤ ks) (h8 : (st.map fun v => v.category).sum ≤ 8)
    {st0 : List Value} (h0 : st0 = as.reverse ++ .ref a :: st)
    (kr : ∀ (r : Option Value) (w' : List jC), Q' (.inl r) w' → J X M d (kc - kc') (ks - ks') (pc + 3) L (r.toList ++ st) w' Q) (kx : ∀ (E : String) (w' : List jC), Q' (.inr E) w' → JX X M d (kc - kc') (ks - ks') pc L st w' E Q) : J X M d kc ks pc L st0 w Q := by
  subst h0
  intro p e R s m args below meth c C H locs cells slots ls hH hS hL h1 h2
  have hA := jCtx_amb C
  obtain ⟨b1, b2, b3, b4, b5, b6, b7, b8, b9⟩ := jCal_back (args := args) (kc' := kc') (ks' := ks') C hz hd
  have hrc := j_recv C hH hw hci hc
  have hsel := jsel_private (C := q.1) (y := z.1) hz.2.2.2.2.1 (hA.word hse args) hy0 (hA.word hpr args) (hA.word hin args)
  refine j_core C hS hL h1 h2 hkc hks (vx_runU (x := z.1) (C := q.1) (owner := z.1.cls) (b := X.2.1 + a) (As := as.map (jT X)) (n := n) (j_fix C) hM ⟨⟨b1, b2, b3, b4, b5, b6⟩, b7, b8, hz.2.2.2.2.1, b9, hA.word hl args, hA.word hsm args, va_Decl.of (hA.word hin args) b7, hsel, hA.word hin args⟩ ⟨jBlind X (.ref a :: as) w, hrc, jPre C hH hS (.ref a :: as)⟩ rfl (by rw [List.length_map]; exact hn) hL.1 (by show (as.reverse ++ .ref a :: st).map (jT X) = _; rw [List.map_append, List.map_reverse]; rfl) (j_sum8 h8 X) hdg ⟨by omega, by omega⟩) kr kx
/-- a method that the receiver's class overrides: linked as z0, selected z -/
theorem J_callOv {index d' kc' ks' n n0 a ci : Nat} {z0 z : jM} {as fs : List Value} {q : vw_C} {Q' : jQ} (hdg : decode M.2.1 pc = .ok (.invokevirtual index, 3)) (hz : jCal z n) (hz0 : jCal z0 n0) (hl : Cond.methodLink M.1.cls index z0.1 ∈ jK) (hsm : Cond.sameMethod z0.1.cls z0.1.cls z0.1.name z0.1.desc ∈ jK) (hin0 : Cond.instanceMethod z0.1 ∈ jK) (hin : Cond.instanceMethod z.1 ∈ jK) (hse : Cond.selects q.1 z0.1 z.1 ∈ jK) (hde : z0.1.desc = z.1.desc) (hw : w[a]? = some (.inr (ci, fs))) (hci : ci < 99) (hc : vwCl[ci]? = some q) (hn : as.length = n) (hM : jMet X z d' kc' ks' (.ref a :: as) w Q') (hd : d' + 1 ≤ d) (hkc : kc' ≤ kc) (hks : ks' ≤ ks) (h8 : (st.map fun v => v.category).sum ≤ 8)
    {st0 : List Value} (h0 : st0 = as.reverse ++ .ref a :: st)
    (kr : ∀ (r : Option Value) (w' : List jC), Q' (.inl r) w' → J X M d (kc - kc') (ks - ks') (pc + 3) L (r.toList ++ st) w' Q) (kx : ∀ (E : String) (w' : List jC), Q' (.inr E) w' → JX X M d (kc - kc') (ks - ks') pc L st w' E Q) : J X M d kc ks pc L st0 w Q := by
  subst h0
  intro p e R s m args below meth c C H locs cells slots ls hH hS hL h1 h2
  have hA := jCtx_amb C
  obtain ⟨b1, b2, b3, b4, b5, b6, b7, b8, b9⟩ := jCal_back (args := args) (kc' := kc') (ks' := ks') C hz hd
  have hrc := j_recv C hH hw hci hc
  have hcode := hA.word hz0.2.1 args
  rw [jCal_word hz0] at hcode
  refine j_core C hS hL h1 h2 hkc hks (vx_runU (x := z0.1) (C := q.1) (owner := z0.1.cls) (b := X.2.1 + a) (As := as.map (jT X)) (n := n) (j_fix C) hM ⟨⟨b1, b2, b3, b4, b5, b6⟩, b7, b8, hz0.2.2.2.2.1, fun sig hs => b9 sig (by rw [← hde]; exact hs), hA.word hl args, hA.word hsm args, va_Decl.of (hA.word hin0 args) hcode, hA.word hse args, hA.word hin args⟩ ⟨jBlind X (.ref a :: as) w, hrc, jPre C hH hS (.ref a :: as)⟩ rfl (by rw [List.length_map]; exact hn) hL.1 (by show (as.reverse ++ .ref a :: st).map (jT X) = _; rw [List.map_append, List.map_reverse]; rfl) (j_sum8 h8 X) hdg ⟨by omega, by omega⟩) kr kx
end JSB0
abbrev SBp (a v : Nat) (ml : Int32) (c : Nat) (bs : List Int32) (w : List jC) : Prop := w[a]? = some (.inr (1, [.ref v, .int 0, .int ml, .int (nI c)])) ∧ w[v]? = some (.inl (1, bs)) ∧ jFitB bs ∧ c ≤ bs.length ∧ 16 ≤ bs.length ∧ bs.length ≤ 270
/-- only a, v and what is new change -/
def FS (a v : Nat) (w w' : List jC) : Prop := w.length ≤ w'.length ∧ ∀ i, i ≠ a → i ≠ v → i < w.length → w'[i]? = w[i]?
theorem FS.rf {a v : Nat} {w : List jC} : FS a v w w := ⟨Nat.le_refl _, fun _ _ _ _ => rfl⟩
theorem FS.tr {a v v' : Nat} {w w' w'' : List jC} (h : FS a v w w') (h' : FS a v' w' w'') (hv : v' = v ∨ w.length ≤ v') : FS a v w w'' := by
  refine ⟨Nat.le_trans h.1 h'.1, fun i h1 h2 h3 => ?_⟩
  have : i ≠ v' := by omega
  exact (h'.2 i h1 this (Nat.lt_of_lt_of_le h3 h.1)).trans (h.2 i h1 h2 h3)
theorem FS.st {a v q : Nat} {w w' w'' : List jC} (h : FS a v w w') (hl : w''.length = w'.length) (hn : ∀ c, c ≠ q → w''[c]? = w'[c]?) (hq : q = a ∨ q = v ∨ w.length ≤ q) : FS a v w w'' :=
  ⟨by rw [hl]; exact h.1, fun i h1 h2 h3 => (hn i (by omega)).trans (h.2 i h1 h2 h3)⟩
theorem FS.pu {a v q : Nat} {w w' w'' : List jC} (h : FS a v w w') (hq : q = w'.length) (hl : w''.length = q + 1) (hn : ∀ c, c < q → w''[c]? = w'[c]?) : FS a v w w'' :=
  ⟨by have := h.1; omega, fun i h1 h2 h3 => (hn i (by have := h.1; omega)).trans (h.2 i h1 h2 h3)⟩
theorem FS.tr2 {a v p : Nat} {w w' w'' : List jC} (h : FS a v w w') (h' : FS p p w' w'') (hp : p = a ∨ p = v ∨ w.length ≤ p) : FS a v w w'' :=
  ⟨Nat.le_trans h.1 h'.1, fun i h1 h2 h3 => (h'.2 i (by omega) (by omega) (Nat.lt_of_lt_of_le h3 h.1)).trans (h.2 i h1 h2 h3)⟩
