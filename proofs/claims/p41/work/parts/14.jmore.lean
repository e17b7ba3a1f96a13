/-! more rules: wide constants, inherited and super calls, String constants as receivers, arraycopy of bytes -/
section JMORE
variable {X : jX} {M : jM} {d kc ks pc : Nat} {L : List (Option Value)} {st : List Value} {w : List jC} {Q : jQ}
theorem J_ldcw {index : Nat} {v : Int32} (hdg : decode M.2.1 pc = .ok (.ldc_w index, 3)) (hc : Cond.constant M.1.cls index v ∈ jK) (k : J X M d kc ks (pc + 3) L (.int v :: st) w Q) : J X M d kc ks pc L st w Q :=
  fun p e R s m args below meth c C H locs cells slots ls hH hS hL h1 h2 => lv_ldcw C.1 C.2.1 C.2.2.2.1 (C.2.2.2.2.2.2.2.2.1.word hc args) hdg (k p e R s m args below meth c C H locs cells slots ls hH hS hL h1 h2)
/-- a method that the reference names through a class that may only inherit it -/
theorem J_callU {index d' kc' ks' n a ci : Nat} {x : MethodName} {owner : String} {z : jM} {as fs : List Value} {q : vw_C} {Q' : jQ} (hdg : decode M.2.1 pc = .ok (.invokevirtual index, 3)) (hz : jCal z n) (hl : Cond.methodLink M.1.cls index x ∈ jK) (hsm : Cond.sameMethod x.cls owner x.name x.desc ∈ jK) (hin : Cond.instanceMethod z.1 ∈ jK) (hse : Cond.selects q.1 x z.1 ∈ jK) (hzx : z.1 = ⟨owner, x.name, x.desc⟩) (hw : w[a]? = some (.inr (ci, fs))) (hci : ci < 99) (hc : vwCl[ci]? = some q) (hn : as.length = n) (hM : jMet X z d' kc' ks' (.ref a :: as) w Q') (hd : d' + 1 ≤ d) (hkc : kc' ≤ kc) (hks : ks' ≤ ks) (h8 : (st.map fun v => v.category).sum ≤ 8)
    {st0 : List Value} (h0 : st0 = as.reverse ++ .ref a :: st)
    (kr : ∀ (r : Option Value) (w' : List jC), Q' (.inl r) w' → J X M d (kc - kc') (ks - ks') (pc + 3) L (r.toList ++ st) w' Q) (kx : ∀ (E : String) (w' : List jC), Q' (.inr E) w' → JX X M d (kc - kc') (ks - ks') pc L st w' E Q) : J X M d kc ks pc L st0 w Q := by
  subst h0
  intro p e R s m args below meth c C H locs cells slots ls hH hS hL h1 h2
  have hA := jCtx_amb C
  obtain ⟨b1, b2, b3, b4, b5, b6, b7, b8, b9⟩ := jCal_back (args := args) (kc' := kc') (ks' := ks') C hz hd
  have hrc := j_recv C hH hw hci hc
  have hown : owner = z.1.cls := by rw [hzx]
  refine j_core C hS hL h1 h2 hkc hks (vx_runU (x := x) (C := q.1) (owner := owner) (b := X.2.1 + a) (As := as.map (jT X)) (n := n) (j_fix C) hM ⟨⟨b1, b2, b3, b4, b5, b6⟩, b7, b8, by rw [hown]; exact hz.2.2.2.2.1, fun sig hs => b9 sig (by rw [hzx]; exact hs), hA.word hl args, hA.word hsm args, by rw [← hzx]; exact va_Decl.of (hA.word hin args) b7, hA.word hse args, hA.word hin args⟩ ⟨jBlind X (.ref a :: as) w, hrc, jPre C hH hS (.ref a :: as)⟩ rfl (by rw [List.length_map]; exact hn) hL.1 (by show (as.reverse ++ .ref a :: st).map (jT X) = _; rw [List.map_append, List.map_reverse]; rfl) (j_sum8 h8 X) hdg ⟨by omega, by omega⟩) kr kx
/-- super.m(..) -/
theorem J_callSU {index d' kc' ks' n a ci cj : Nat} {z : jM} {as fs : List Value} {q q2 : vw_C} {Q' : jQ} (hdg : decode M.2.1 pc = .ok (.invokespecial index, 3)) (hz : jCal z n) (hl : Cond.methodLink M.1.cls index z.1 ∈ jK) (hsm : Cond.sameMethod z.1.cls z.1.cls z.1.name z.1.desc ∈ jK) (hsu : Cond.superclass M.1.cls z.1.cls ∈ jK) (hin : Cond.instanceMethod z.1 ∈ jK) (hnm : z.1.name ≠ "<init>") (hown : vwCl[cj]? = some q2 ∧ q2.1 = M.1.cls) (hw : w[a]? = some (.inr (ci, fs))) (hci : ci < 99) (hc : vwCl[ci]? = some q) (hn : as.length = n) (hM : jMet X z d' kc' ks' (.ref a :: as) w Q') (hd : d' + 1 ≤ d) (hkc : kc' ≤ kc) (hks : ks' ≤ ks) (h8 : (st.map fun v => v.category).sum ≤ 8)
    {st0 : List Value} (h0 : st0 = as.reverse ++ .ref a :: st)
    (kr : ∀ (r : Option Value) (w' : List jC), Q' (.inl r) w' → J X M d (kc - kc') (ks - ks') (pc + 3) L (r.toList ++ st) w' Q) (kx : ∀ (E : String) (w' : List jC), Q' (.inr E) w' → JX X M d (kc - kc') (ks - ks') pc L st w' E Q) : J X M d kc ks pc L st0 w Q := by
  subst h0
  intro p e R s m args below meth c C H locs cells slots ls hH hS hL h1 h2
  have hA := jCtx_amb C
  obtain ⟨b1, b2, b3, b4, b5, b6, b7, b8, b9⟩ := jCal_back (args := args) (kc' := kc') (ks' := ks') C hz hd
  have hrc := j_recv C hH hw hci hc
  have hat := (hA.2.1.1 ci q hc).2
  refine j_core C hS hL h1 h2 hkc hks (vx_runSU (C := q.1) hat (b := X.2.1 + a) (As := as.map (jT X)) (n := n) (j_fix C) hM ⟨⟨b1, b2, b3, b4, b5, b6⟩, hA.word hl args, hA.word hsm args, hA.word hsu args, hA.word hin args, b8, b7, hnm, b9⟩ ⟨jBlind X (.ref a :: as) w, hrc, jPre C hH hS (.ref a :: as)⟩ rfl (by rw [List.length_map]; exact hn) hL.1 (by show (as.reverse ++ .ref a :: st).map (jT X) = _; rw [List.map_append, List.map_reverse]; rfl) (j_sum8 h8 X) hdg ⟨by omega, by omega⟩) kr kx
/-- a method of a String constant -/
theorem J_callVO {index d' kc' ks' n a : Nat} {z : jM} {as fs : List Value} {Q' : jQ} (hdg : decode M.2.1 pc = .ok (.invokevirtual index, 3)) (hz : jCal z n) (hl : Cond.methodLink M.1.cls index z.1 ∈ jK) (hin : Cond.instanceMethod z.1 ∈ jK) (hse : Cond.selects z.1.cls z.1 z.1 ∈ jK) (hw : X.2.2.2.2.2[a]? = some (.inr (0, fs))) (hq : z.1.cls = "java/lang/String") (hn : as.length = n) (hM : jMet X z d' kc' ks' (.retAddr a :: as) w Q') (hd : d' + 1 ≤ d) (hkc : kc' ≤ kc) (hks : ks' ≤ ks) (h8 : (st.map fun v => v.category).sum ≤ 8)
    {st0 : List Value} (h0 : st0 = as.reverse ++ .retAddr a :: st)
    (kr : ∀ (r : Option Value) (w' : List jC), Q' (.inl r) w' → J X M d (kc - kc') (ks - ks') (pc + 3) L (r.toList ++ st) w' Q) (kx : ∀ (E : String) (w' : List jC), Q' (.inr E) w' → JX X M d (kc - kc') (ks - ks') pc L st w' E Q) : J X M d kc ks pc L st0 w Q := by
  subst h0
  intro p e R s m args below meth c C H locs cells slots ls hH hS hL h1 h2
  have hA := jCtx_amb C
  obtain ⟨b1, b2, b3, b4, b5, b6, b7, b8, b9⟩ := jCal_back (args := args) (kc' := kc') (ks' := ks') C hz hd
  have h9 : jOldC X s s.heap a (.inr (0, fs)) := hA.2.2.1 a _ hw
  have hrc : ∃ cell : Cell, H[X.2.2.1 a]? = some cell ∧ cell.vm.isStatics = false ∧ s.vm.findClass z.1.cls = some cell.cls := by
    obtain ⟨cell, g1, g2, g3, -⟩ := (h9.1).kept hS.2.1
    exact ⟨cell, g1, g2, by rw [hq]; exact g3⟩
  refine j_core C hS hL h1 h2 hkc hks (vx_runV (C := z.1.cls) (b := X.2.2.1 a) (As := as.map (jT X)) (n := n) (j_fix C) hM ⟨⟨b1, b2, b3, b4, b5, b6, b7, b8, hz.2.2.2.2.1, b9, hA.word hl args⟩, hA.word hin args, hA.word hse args⟩ ⟨jBlind X (.retAddr a :: as) w, hrc, jPre C hH hS (.retAddr a :: as)⟩ rfl (by rw [List.length_map]; exact hn) hL.1 (by show (as.reverse ++ .retAddr a :: st).map (jT X) = _; rw [List.map_append, List.map_reverse]; rfl) (j_sum8 h8 X) hdg ⟨by omega, by omega⟩) kr kx
/-- what arraycopy makes -/
def jCpy (xs ys : List Int32) (sp dp n : Nat) : List Int32 := (List.range ys.length).map fun k => if dp ≤ k ∧ k < dp + n then xs.getD (sp + (k - dp)) 0 else ys.getD k 0
theorem jCpy_len (xs ys : List Int32) (sp dp n : Nat) : (jCpy xs ys sp dp n).length = ys.length := by simp [jCpy]
theorem jCpy_fun {xs ys : List Int32} {sp dp n : Nat} (h : dp + n ≤ ys.length) : (fun j => (jCpy xs ys sp dp n).getD j 0) = va_cpy (fun j => xs.getD j 0) (fun j => ys.getD j 0) sp dp n := by
  funext j
  unfold jCpy va_cpy
  rw [List.getD_eq_getElem?_getD, List.getElem?_map]
  by_cases hj : j < ys.length
  · rw [List.getElem?_range hj]; rfl
  · rw [List.getElem?_eq_none (by simpa using hj), if_neg (by omega)]
    show (0 : Int32) = ys.getD j 0
    rw [List.getD_eq_getElem?_getD, List.getElem?_eq_none (by omega)]
    rfl
def jFitB (xs : List Int32) : Prop := ∀ x ∈ xs, fits .byte (.int x) = true
theorem jFitB_getD {xs : List Int32} (h : jFitB xs) (i : Nat) : fits .byte (.int (xs.getD i 0)) = true := by
  rw [List.getD_eq_getElem?_getD]
  by_cases hi : i < xs.length
  · rw [List.getElem?_eq_getElem hi]; exact h _ (List.getElem_mem hi)
  · rw [List.getElem?_eq_none (by omega)]; decide
theorem jFitB_cpy {xs ys : List Int32} (hx : jFitB xs) (hy : jFitB ys) (sp dp n : Nat) : jFitB (jCpy xs ys sp dp n) := by
  intro x h
  obtain ⟨k, -, rfl⟩ := List.mem_map.mp h
  split
  · exact jFitB_getD hx _
  · exact jFitB_getD hy _
/-- System.arraycopy into bytes of ours, from a row of bytes that lies in the heap -/
theorem J_copy_core {p : Program} {e : Env} {R : Room} {s : State} {m : MethodId} {args : Array Value} {below : List Frame} {meth : Method} {c : Code} {H : Heap} {locs : List Loc} {cells slots : Nat} {ls : Array Slot} {index a1 : Nat} {xs ys : List Int32} {b0 : Nat} {scr : Cell} {sp dp n : Int32}
    (C : jCtx X M d p R s m meth c) (hH : jH X w H) (hS : va_S (jA X) s.heap H locs) (hL : jL X ls M.2.2.1 L) (h1 : cells + kc ≤ R.cells) (h2 : slots + ks ≤ R.slots)
    (hdg : decode M.2.1 pc = .ok (.invokestatic index, 3)) (hl : Cond.methodLink M.1.cls index arraycopyName ∈ jK) (hna : Cond.native arraycopyName ∈ jK) (hst : Cond.static arraycopyName ∈ jK) (hini : Cond.initialized "java/lang/System" ∈ jK)
    (hc0 : H[b0]? = some scr) (hs2 : s.isArrayOf scr .byte) (hs3 : scr.vm ≠ .unknown) (hs4 : xs.length ≤ scr.slots.size) (hs5 : ∀ j : Nat, j < xs.length → scr.slots[j]? = some (.int (xs.getD j 0)))
    (hw : w[a1]? = some (.inl (1, ys))) (g1 : ¬ sp < 0) (g2 : ¬ dp < 0) (g3 : ¬ n < 0) (g4 : sp.toNatClampNeg + n.toNatClampNeg ≤ xs.length) (g5 : dp.toNatClampNeg + n.toNatClampNeg ≤ ys.length) (hfit : jFitB xs) (hd : 2 ≤ d) (h8 : (st.map fun v => v.category).sum ≤ 8)
    (kk : J X M d kc ks (pc + 3) L st (w.set a1 (.inl (1, jCpy xs ys sp.toNatClampNeg dp.toNatClampNeg n.toNatClampNeg))) Q) :
    W p X.1 e R s m args below meth c H locs cells slots (jEnd X Q below args s R) (F0 m pc ls (.int n :: .int dp :: .ref (X.2.1 + a1) :: .int sp :: .ref b0 :: st.map (jT X))) := by
  have nn : ∀ z : Int32, ¬ z < 0 → z.toInt = (z.toNatClampNeg : Int) := by
    intro z hz
    have hz0 : (0 : Int) ≤ z.toInt := by
      have := Int32.not_lt.mp hz
      simpa using Int32.le_iff_toInt_le.mp this
    show z.toInt = ((z.toInt.toNat : Nat) : Int)
    omega
  have hA := jCtx_amb C
  obtain ⟨-, -, -, -, -, -, -, -, -, -, hd1, hd2⟩ := id C
  have hc1 : H[X.2.1 + a1]? = some (vp_cell (X.2.2.2.2.1 1) (ys.length, .inl (fun j => ys.getD j 0))) := hH.2 a1 _ hw (fun _ e => by cases e)
  intro T hT Y
  obtain ⟨hs6, k0, hk0, cm0, hkk0⟩ := hs2
  obtain ⟨-, k1, hk1, cm1, hkk1⟩ := (hA.2.1.2 1 _ rfl).1 ys.length (fun j => .int (ys.getD j 0))
  obtain ⟨vm', X', step⟩ := Y.arraycopy C.1 C.2.2.2.1 (hA.word hl args) (hA.word hna args) (hA.word hst args) (hA.word hini args) (src := b0) (dst := X.2.1 + a1) (cs := scr) (cd := vp_cell (X.2.2.2.2.1 1) (ys.length, .inl (fun j => ys.getD j 0))) (srcPos := sp) (destPos := dp) (n := n) (by rw [hT]; exact hc0) (by rw [hT]; exact hc1)
    hs6 (fun _ h => by cases h) hs3 (fun h => by cases h) hk0 hk1 hkk0 hkk1 (by simp [refKind]) g1 g2 g3
    (by rw [nn sp g1, nn n g3]; omega)
    (by rw [nn dp g2, nn n g3]; show ¬ _ > ((arrV (X.2.2.2.2.1 1) ys.length (fun j => .int (ys.getD j 0))).slots.size : Int); rw [arrV_size]; omega)
    (fun vm₁ _ i hi => by
      have e : scr.slots.getD (sp.toNatClampNeg + i) .null = .int (xs.getD (sp.toNatClampNeg + i) 0) := by
        rw [Array.getD_eq_getD_getElem?, hs5 _ (by omega)]
        rfl
      refine ⟨?_, ?_⟩
      · rw [e]
        exact jFitB_getD hfit _
      · rw [e]
        exact trivial)
    (g := F0 m pc ls (.int n :: .int dp :: .ref (X.2.1 + a1) :: .int sp :: .ref b0 :: st.map (jT X))) rfl (hL.1.trans C.2.2.1.symm) (rest := st.map (jT X)) rfl (by rw [C.2.1]; exact hdg) (by omega) (by
      show 2 * 0 + ((st.map (jT X)).map fun v => v.category).sum + (nativeFrameWords "java/lang/System" "arraycopy" 5 + 11) ≤ _
      rw [jT_sum]
      have hnw : nativeFrameWords "java/lang/System" "arraycopy" 5 + 11 ≤ 150 := by decide +kernel
      omega)
  have e1 : copied scr (vp_cell (X.2.2.2.2.1 1) (ys.length, .inl (fun j => ys.getD j 0))) sp dp n = vp_cell (X.2.2.2.2.1 1) (ys.length, .inl (va_cpy (fun j => xs.getD j 0) (fun j => ys.getD j 0) sp.toNatClampNeg dp.toNatClampNeg n.toNatClampNeg)) := va_copiedX (fun z => .int z) scr (X.2.2.2.2.1 1) (fun j => xs.getD j 0) (fun j => ys.getD j 0) hs5 g4
  rw [e1, ← jCpy_fun g5] at X' step
  generalize hcell : vp_cell (X.2.2.2.2.1 1) (ys.length, .inl (fun j => (jCpy xs ys sp.toNatClampNeg dp.toNatClampNeg n.toNatClampNeg).getD j 0)) = cell1 at X' step
  have hl9 : X.2.1 + a1 < H.size := (Array.getElem?_eq_some_iff.mp hc1).1
  have hheap : ((T.setVm vm').setCell (X.2.1 + a1) cell1).heap = H.setIfInBounds (X.2.1 + a1) cell1 := by rw [← hT]; rfl
  have oq : ∀ q : Nat, q ≠ X.2.1 + a1 → (H.setIfInBounds (X.2.1 + a1) cell1)[q]? = H[q]? := fun q hq => by simp [Array.getElem?_setIfInBounds, Ne.symm hq]
  obtain ⟨t, q1, q2⟩ := kk p e R s m args below meth c C (H.setIfInBounds (X.2.1 + a1) cell1) _ cells slots ls (jH_set hH hw (by simp) oq (by
      show (H.setIfInBounds (X.2.1 + a1) cell1)[X.2.1 + a1]? = some (vp_cell (X.2.2.2.2.1 1) ((jCpy xs ys sp.toNatClampNeg dp.toNatClampNeg n.toNatClampNeg).length, .inl (fun j => (jCpy xs ys sp.toNatClampNeg dp.toNatClampNeg n.toNatClampNeg).getD j 0)))
      rw [jCpy_len, hcell]
      simp [Array.getElem?_setIfInBounds, hl9])) ⟨by simp; exact hS.1, fun q q1 q2 => by
      rw [oq q (fun e => q2 (by rw [e]; exact Nat.le_add_right _ _))]
      exact hS.2.1 q q1 q2, fun q hq => by
      rcases List.mem_append.mp hq with h | h
      · exact hS.2.2 q h
      · obtain ⟨z, -, hz⟩ := List.mem_map.mp h
        rw [← hz]
        exact Nat.le_add_right _ _⟩ hL h1 h2 _ hheap X'
  exact ⟨t, step t q1, q2⟩
theorem J_copy {index a0 a1 : Nat} {xs ys : List Int32} {sp dp n : Int32} (hdg : decode M.2.1 pc = .ok (.invokestatic index, 3)) (hl : Cond.methodLink M.1.cls index arraycopyName ∈ jK) (hna : Cond.native arraycopyName ∈ jK) (hst : Cond.static arraycopyName ∈ jK) (hini : Cond.initialized "java/lang/System" ∈ jK)
    (hw0 : w[a0]? = some (.inl (1, xs))) (hw : w[a1]? = some (.inl (1, ys))) (g1 : ¬ sp < 0) (g2 : ¬ dp < 0) (g3 : ¬ n < 0) (g4 : sp.toNatClampNeg + n.toNatClampNeg ≤ xs.length) (g5 : dp.toNatClampNeg + n.toNatClampNeg ≤ ys.length) (hfit : jFitB xs) (hd : 2 ≤ d) (h8 : (st.map fun v => v.category).sum ≤ 8)
    (kk : J X M d kc ks (pc + 3) L st (w.set a1 (.inl (1, jCpy xs ys sp.toNatClampNeg dp.toNatClampNeg n.toNatClampNeg))) Q) : J X M d kc ks pc L (.int n :: .int dp :: .ref a1 :: .int sp :: .ref a0 :: st) w Q := by
  intro p e R s m args below meth c C H locs cells slots ls hH hS hL h1 h2
  have hc0 : H[X.2.1 + a0]? = some (arrV (X.2.2.2.2.1 1) xs.length (fun j => .int (xs.getD j 0))) := hH.2 a0 _ hw0 (fun _ e => by cases e)
  exact J_copy_core (b0 := X.2.1 + a0) C hH hS hL h1 h2 hdg hl hna hst hini hc0 (((jCtx_amb C).2.1.2 1 _ rfl).1 xs.length (fun j => .int (xs.getD j 0))) (fun h => by cases h) (by rw [arrV_size]; exact Nat.le_refl _) (fun j hj => by rw [arrV_read _ _ hj]) hw g1 g2 g3 g4 g5 hfit hd h8 kk
theorem J_copyO {index a0 a1 : Nat} {xs ys : List Int32} {sp dp n : Int32} (hdg : decode M.2.1 pc = .ok (.invokestatic index, 3)) (hl : Cond.methodLink M.1.cls index arraycopyName ∈ jK) (hna : Cond.native arraycopyName ∈ jK) (hst : Cond.static arraycopyName ∈ jK) (hini : Cond.initialized "java/lang/System" ∈ jK)
    (hw0 : X.2.2.2.2.2[a0]? = some (.inl (1, xs))) (hw : w[a1]? = some (.inl (1, ys))) (g1 : ¬ sp < 0) (g2 : ¬ dp < 0) (g3 : ¬ n < 0) (g4 : sp.toNatClampNeg + n.toNatClampNeg ≤ xs.length) (g5 : dp.toNatClampNeg + n.toNatClampNeg ≤ ys.length) (hfit : jFitB xs) (hd : 2 ≤ d) (h8 : (st.map fun v => v.category).sum ≤ 8)
    (kk : J X M d kc ks (pc + 3) L st (w.set a1 (.inl (1, jCpy xs ys sp.toNatClampNeg dp.toNatClampNeg n.toNatClampNeg))) Q) : J X M d kc ks pc L (.int n :: .int dp :: .ref a1 :: .int sp :: .retAddr a0 :: st) w Q := by
  intro p e R s m args below meth c C H locs cells slots ls hH hS hL h1 h2
  have h9 : jOldC X s s.heap a0 (.inl (1, xs)) := (jCtx_amb C).2.2.1 a0 _ hw0
  obtain ⟨scr, q1, q2, q3, q4, -, q5, q7⟩ := va_T.kept h9 hS.2.1
  exact J_copy_core (b0 := X.2.2.1 a0) C hH hS hL h1 h2 hdg hl hna hst hini q1 q2 q3 q4 q5 hw g1 g2 g3 g4 g5 hfit hd h8 kk
end JMORE
