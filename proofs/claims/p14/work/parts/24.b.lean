/-! rules for texts under way: bytes, copies, clones -/
theorem jFitB_rep (n : Nat) : jFitB (List.replicate n 0) := by
  intro x hx
  rw [(List.mem_replicate.mp hx).2]
  decide
theorem jFitB_set {xs : List Int32} (h : jFitB xs) (i : Nat) (x : Int32) : jFitB (xs.set i x.toInt8.toInt32) := by
  intro y hy
  rcases List.mem_or_eq_of_mem_set hy with e | e
  · exact h y e
  · rw [e]
    exact pk_fb x
/-- the digit rows and the four texts that are read -/
def XO (X : jX) : Prop := (∃ ys : List Int32, X.2.2.2.2.2[1]? = some (.inl (1, ys)) ∧ ys.length = 100) ∧ (∃ ys : List Int32, X.2.2.2.2.2[2]? = some (.inl (1, ys)) ∧ ys.length = 100) ∧
  (∃ (ys : List Int32) (t : Nat) (z : List Value), X.2.2.2.2.2[5]? = some (.inr (0, .retAddr t :: z)) ∧ X.2.2.2.2.2[t]? = some (.inl (1, ys)) ∧ ys.length = 0 ∧ jFitB ys) ∧
  (∃ (ys : List Int32) (t : Nat) (z : List Value), X.2.2.2.2.2[6]? = some (.inr (0, .retAddr t :: z)) ∧ X.2.2.2.2.2[t]? = some (.inl (1, ys)) ∧ ys.length = 1 ∧ jFitB ys)
section JSB1
variable {X : jX} {M : jM} {d kc ks pc : Nat} {L : List (Option Value)} {st : List Value} {w : List jC} {Q : jQ}
theorem J_null (hdg : decode M.2.1 pc = .ok (.aconst_null, 1)) (k : J X M d kc ks (pc + 1) L (.null :: st) w Q) : J X M d kc ks pc L st w Q :=
  fun p e R s m args below meth c C H locs cells slots ls hH hS hL h1 h2 => lv_null C.1 C.2.1 hdg (k p e R s m args below meth c C H locs cells slots ls hH hS hL h1 h2)
theorem J_ishr0 {a : Nat} (hdg : decode M.2.1 pc = .ok (.ishr, 1)) (ha : a < 2 ^ 31) (k : J X M d kc ks (pc + 1) L (.int (nI a) :: st) w Q) : J X M d kc ks pc L (.int (nI 0) :: .int (nI a) :: st) w Q :=
  J_ishrN (s := 0) hdg ha (by decide) (by rw [Nat.pow_zero, Nat.div_one]; exact k)
theorem J_ishl0 {a : Nat} (hdg : decode M.2.1 pc = .ok (.ishl, 1)) (ha : a < 2 ^ 31) (k : J X M d kc ks (pc + 1) L (.int (nI a) :: st) w Q) : J X M d kc ks pc L (.int (nI 0) :: .int (nI a) :: st) w Q :=
  J_ishl hdg (by
    rw [pk_shlN (n := a) _ 0 (sh_of (by decide)) (by omega), Nat.pow_zero, Nat.mul_one]
    exact k)
theorem J_subIfle {a b : Nat} {off : Int} {tgt : Nat} (hdg : decode M.2.1 pc = .ok (.isub, 1)) (hdg2 : decode M.2.1 (pc + 1) = .ok (.ifCond .le off, 3)) (ht : ((pc + 1 : Nat) : Int) + off = (tgt : Int)) (ha : a < 2 ^ 30) (hb : b < 2 ^ 30)
    (kt : a ≤ b → J X M d kc ks tgt L st w Q) (kf : b < a → J X M d kc ks (pc + 4) L st w Q) : J X M d kc ks pc L (.int (nI b) :: .int (nI a) :: st) w Q := by
  have e1 := pk_sub_toInt (a := a) (b := b) ha hb
  refine J_isub hdg (J_if_le hdg2 ht (fun h => kt ?_) (fun h => kf ?_))
  · rw [Int32.le_iff_toInt_le, e1, Int32.toInt_zero] at h
    omega
  · rw [Int32.le_iff_toInt_le, e1, Int32.toInt_zero] at h
    omega
theorem J_newB {n N : Nat} (hdg : decode M.2.1 pc = .ok (.newarray .byte, 2)) (hn : n = N) (hb : N ≤ 10000) (hkc : 1 ≤ kc) (hks : N ≤ ks)
    (kk : ∀ (a : Nat) (w' : List jC) (ys : List Int32), a = w.length → w'.length = a + 1 → w'[a]? = some (.inl (1, ys)) → ys.length = N → jFitB ys → (∀ c, c < a → w'[c]? = w[c]?) → J X M d (kc - 1) (ks - N) (pc + 2) L (.ref a :: st) w' Q) : J X M d kc ks pc L (.int (nI n) :: st) w Q := by
  subst hn
  refine J_newa (t := 1) hdg (by decide) rfl fa_byte (nI_pos (by omega)) (nI_clamp (by omega)) (by omega) hkc hks ?_
  refine kk _ _ (List.replicate n 0) rfl (by rw [List.length_append]; rfl) ?_ List.length_replicate (jFitB_rep n) (fun c hc => List.getElem?_append_left hc)
  rw [List.getElem?_append_right (Nat.le_refl _), Nat.sub_self]
  rfl
theorem J_bastS {a i : Nat} {xs : List Int32} {x : Int32} (hdg : decode M.2.1 pc = .ok (.bastore, 1)) (hw : w[a]? = some (.inl (1, xs))) (hf : jFitB xs) (hi : i < xs.length) (hl : xs.length < 2 ^ 31)
    (kk : ∀ (w' : List jC) (ys : List Int32), w'.length = w.length → w'[a]? = some (.inl (1, ys)) → ys.length = xs.length → jFitB ys → (∀ c, c ≠ a → w'[c]? = w[c]?) → J X M d kc ks (pc + 1) L st w' Q) : J X M d kc ks pc L (.int x :: .int (nI i) :: .ref a :: st) w Q :=
  J_bast hdg hw (nI_in hi hl) (kk _ _ List.length_set (List.getElem?_set_self (gl hw)) List.length_set (jFitB_set hf _ x) (fun c hc => List.getElem?_set_ne (fun e => hc e.symm)))
theorem J_copyS {index a0 a1 sp dp n : Nat} {xs ys : List Int32} (hdg : decode M.2.1 pc = .ok (.invokestatic index, 3)) (hl : Cond.methodLink M.1.cls index arraycopyName ∈ jK) (hna : Cond.native arraycopyName ∈ jK) (hst : Cond.static arraycopyName ∈ jK) (hini : Cond.initialized "java/lang/System" ∈ jK)
    (hw0 : w[a0]? = some (.inl (1, xs))) (hf0 : jFitB xs) (hw : w[a1]? = some (.inl (1, ys))) (hf : jFitB ys) (h1 : sp < 2 ^ 31) (h2 : dp < 2 ^ 31) (h3 : n < 2 ^ 31) (h4 : sp + n ≤ xs.length) (h5 : dp + n ≤ ys.length) (hd : 2 ≤ d) (h8 : (st.map fun v => v.category).sum ≤ 8)
    (kk : ∀ (w' : List jC) (zs : List Int32), w'.length = w.length → w'[a1]? = some (.inl (1, zs)) → zs.length = ys.length → jFitB zs → (∀ c, c ≠ a1 → w'[c]? = w[c]?) → J X M d kc ks (pc + 3) L st w' Q) : J X M d kc ks pc L (.int (nI n) :: .int (nI dp) :: .ref a1 :: .int (nI sp) :: .ref a0 :: st) w Q :=
  J_copy hdg hl hna hst hini hw0 hw (nI_pos h1) (nI_pos h2) (nI_pos h3) (by rw [nI_clamp h1, nI_clamp h3]; exact h4) (by rw [nI_clamp h2, nI_clamp h3]; exact h5) hf0 hd h8
    (kk _ _ List.length_set (List.getElem?_set_self (gl hw)) (jCpy_len _ _ _ _ _) (jFitB_cpy hf0 hf _ _ _) (fun c hc => List.getElem?_set_ne (fun e => hc e.symm)))
theorem J_copyOS {index a0 a1 sp dp n : Nat} {xs ys : List Int32} (hdg : decode M.2.1 pc = .ok (.invokestatic index, 3)) (hl : Cond.methodLink M.1.cls index arraycopyName ∈ jK) (hna : Cond.native arraycopyName ∈ jK) (hst : Cond.static arraycopyName ∈ jK) (hini : Cond.initialized "java/lang/System" ∈ jK)
    (hw0 : X.2.2.2.2.2[a0]? = some (.inl (1, xs))) (hf0 : jFitB xs) (hw : w[a1]? = some (.inl (1, ys))) (hf : jFitB ys) (h1 : sp < 2 ^ 31) (h2 : dp < 2 ^ 31) (h3 : n < 2 ^ 31) (h4 : sp + n ≤ xs.length) (h5 : dp + n ≤ ys.length) (hd : 2 ≤ d) (h8 : (st.map fun v => v.category).sum ≤ 8)
    (kk : ∀ (w' : List jC) (zs : List Int32), w'.length = w.length → w'[a1]? = some (.inl (1, zs)) → zs.length = ys.length → jFitB zs → (∀ c, c ≠ a1 → w'[c]? = w[c]?) → J X M d kc ks (pc + 3) L st w' Q) : J X M d kc ks pc L (.int (nI n) :: .int (nI dp) :: .ref a1 :: .int (nI sp) :: .retAddr a0 :: st) w Q :=
  J_copyO hdg hl hna hst hini hw0 hw (nI_pos h1) (nI_pos h2) (nI_pos h3) (by rw [nI_clamp h1, nI_clamp h3]; exact h4) (by rw [nI_clamp h2, nI_clamp h3]; exact h5) hf0 hd h8
    (kk _ _ List.length_set (List.getElem?_set_self (gl hw)) (jCpy_len _ _ _ _ _) (jFitB_cpy hf0 hf _ _ _) (fun c hc => List.getElem?_set_ne (fun e => hc e.symm)))
theorem J_cloneB {index a : Nat} {xs : List Int32} (hdg : decode M.2.1 pc = .ok (.invokevirtual index, 3)) (hl : Cond.methodLink M.1.cls index ⟨"[B", "clone", "()Ljava/lang/Object;"⟩ ∈ jK) (hsame : Cond.sameMethod "[B" "java/lang/Object" "clone" "()Ljava/lang/Object;" ∈ jK)
    (hnat : Cond.native ⟨"java/lang/Object", "clone", "()Ljava/lang/Object;"⟩ ∈ jK) (hinst : Cond.instanceMethod ⟨"java/lang/Object", "clone", "()Ljava/lang/Object;"⟩ ∈ jK) (hsel : Cond.selects "[B" ⟨"[B", "clone", "()Ljava/lang/Object;"⟩ ⟨"java/lang/Object", "clone", "()Ljava/lang/Object;"⟩ ∈ jK) (hcl : Cond.castable "[B" "java/lang/Cloneable" ∈ jK)
    (hw : w[a]? = some (.inl (1, xs))) (hf : jFitB xs) (hd : 1 ≤ d) (h8 : (st.map fun v => v.category).sum ≤ 8) (hkc : 1 ≤ kc) (hks : xs.length ≤ ks)
    (kk : J X M d (kc - 1) (ks - xs.length) (pc + 3) L (.ref w.length :: st) (w ++ [.inl (1, xs)]) Q) : J X M d kc ks pc L (.ref a :: st) w Q := by
  intro p e R s m args below meth c C9 H locs cells slots ls hH hS hL h1 h2
  have hA := jCtx_amb C9
  have hd1 := C9.2.2.2.2.2.2.2.2.2.2
  have hnm : s.vm.findClass "[B" = some (X.2.2.2.2.1 1) := (hA.2.1.2 1 _ rfl).2
  obtain ⟨c0, t0', f1, f2, f3⟩ := Cond.castable_spec (hA.word hcl args)
  cases hnm.symm.trans f1
  have hlen : H.size = X.2.1 + w.length := hH.1
  have hc0 : H[X.2.1 + a]? = some (arrV (X.2.2.2.2.1 1) xs.length (fun j => .int (xs.getD j 0))) := hH.2 a _ hw (fun _ e => by cases e)
  have hsz : (arrV (X.2.2.2.2.1 1) xs.length (fun j => .int (xs.getD j 0))).slots.size = xs.length := arrV_size _ _ _
  intro T hT X1
  have hcellT : T.heap[X.2.1 + a]? = some (arrV (X.2.2.2.2.1 1) xs.length (fun j => .int (xs.getD j 0))) := by rw [hT]; exact hc0
  obtain ⟨-, kA, hkA, comp, hkind⟩ := State.isArrayOf_alike X1.warmed.alike ((hA.2.1.2 1 _ rfl).1 0 (fun _ => .null))
  obtain ⟨-, kS, hkS, compS, hkindS⟩ := (hA.2.1.2 1 _ rfl).1 0 (fun _ => .null)
  obtain ⟨vm', X', st1⟩ := X1.cloneArray C9.1 C9.2.2.2.1 (hA.word hl args) (hA.word hsame args) (hA.word hnat args) (hA.word hinst args) (hA.word hsel args) (a := X.2.1 + a) (cell := arrV (X.2.2.2.2.1 1) xs.length (fun j => .int (xs.getD j 0))) hcellT (fun k h => by cases h) (fun h => by cases h) hnm f2 f3
    (fun i v hv => by
      have hk' : T.vm.classes[X.2.2.2.2.1 1]? = some kA := hkA
      have hi : i < xs.length := by
        have := (Array.getElem?_eq_some_iff.mp hv).1
        rw [hsz] at this
        exact this
      rw [arrV_read _ _ hi] at hv
      cases hv
      show T.fitsSlot (X.2.2.2.2.1 1) .none i _ = true
      simpa [State.fitsSlot, State.slotType?, hk', hkind] using jFitB_getD hf i)
    (g := F0 m pc ls (.ref (X.2.1 + a) :: st.map (jT X))) rfl (by rw [hL.1]; exact C9.2.2.1.symm) rfl (by rw [C9.2.1]; exact hdg) (by omega) (by
      show 2 * 0 + ((st.map (jT X)).map fun v => v.category).sum + 14 ≤ R.locals
      rw [jT_sum]
      omega) (by omega) (by rw [hsz]; omega) (hloader := Vm.clonesLoader_of_array hkS hkindS)
  rw [hsz] at X'
  generalize hH1 : H.push (arrV (X.2.2.2.2.1 1) xs.length (fun j => .int (xs.getD j 0))) = H1 at *
  have z1 : H1.size = H.size + 1 := by rw [← hH1, Array.size_push]
  have e1 : H1[H.size]? = some (arrV (X.2.2.2.2.1 1) xs.length (fun j => .int (xs.getD j 0))) := by rw [← hH1, Array.getElem?_push_size]
  have o1 : ∀ q : Nat, q < H.size → H1[q]? = H[q]? := fun q hq => by rw [← hH1, Array.getElem?_push, if_neg (Nat.ne_of_lt hq)]
  have hk := kk p e R s m args below meth c C9 H1 locs (cells + 1) (slots + xs.length) ls (jH_push hH z1 o1 (fun _ => by show H1[X.2.1 + w.length]? = _; rw [← hlen, e1]; rfl)) ⟨Nat.le_trans hS.1 (by omega), fun q g1 g2 => (o1 q (Nat.lt_of_lt_of_le g1 hS.1)).trans (hS.2.1 q g1 g2), hS.2.2⟩ hL (by omega) (by omega)
  rw [List.map_cons, show jT X (.ref w.length) = .ref H.size by rw [hlen]; rfl] at hk
  obtain ⟨t, b1, b2⟩ := hk ((T.setVm vm').pushCell (arrV (X.2.2.2.2.1 1) xs.length (fun j => .int (xs.getD j 0)))) (by rw [← hH1, ← hT]; rfl) X'
  refine ⟨t, st1 t ?_, b2⟩
  rw [hT]
  exact b1
theorem fl_clone : Cond.methodLink RJ7 310 ⟨"[B", "clone", "()Ljava/lang/Object;"⟩ ∈ jK := jK_of 629 (by decide +kernel) rfl
theorem fq_clone : Cond.sameMethod "[B" "java/lang/Object" "clone" "()Ljava/lang/Object;" ∈ jK := jK_of 630 (by decide +kernel) rfl
theorem fnat_clone : Cond.native ⟨"java/lang/Object", "clone", "()Ljava/lang/Object;"⟩ ∈ jK := jK_of 631 (by decide +kernel) rfl
theorem fm_clone : Cond.instanceMethod ⟨"java/lang/Object", "clone", "()Ljava/lang/Object;"⟩ ∈ jK := jK_of 632 (by decide +kernel) rfl
theorem fe_clone : Cond.selects "[B" ⟨"[B", "clone", "()Ljava/lang/Object;"⟩ ⟨"java/lang/Object", "clone", "()Ljava/lang/Object;"⟩ ∈ jK := jK_of 633 (by decide +kernel) rfl
theorem fcast_clone : Cond.castable "[B" "java/lang/Cloneable" ∈ jK := jK_of 634 (by decide +kernel) rfl
theorem J_cloneS {index a : Nat} {xs : List Int32} (hdg : decode M.2.1 pc = .ok (.invokevirtual index, 3)) (hl : Cond.methodLink M.1.cls index ⟨"[B", "clone", "()Ljava/lang/Object;"⟩ ∈ jK) (hsame : Cond.sameMethod "[B" "java/lang/Object" "clone" "()Ljava/lang/Object;" ∈ jK)
    (hnat : Cond.native ⟨"java/lang/Object", "clone", "()Ljava/lang/Object;"⟩ ∈ jK) (hinst : Cond.instanceMethod ⟨"java/lang/Object", "clone", "()Ljava/lang/Object;"⟩ ∈ jK) (hsel : Cond.selects "[B" ⟨"[B", "clone", "()Ljava/lang/Object;"⟩ ⟨"java/lang/Object", "clone", "()Ljava/lang/Object;"⟩ ∈ jK) (hcl : Cond.castable "[B" "java/lang/Cloneable" ∈ jK)
    (hw : w[a]? = some (.inl (1, xs))) (hf : jFitB xs) (hd : 1 ≤ d) (h8 : (st.map fun v => v.category).sum ≤ 8) (hkc : 1 ≤ kc) (hks : xs.length ≤ ks)
    (kk : ∀ (b : Nat) (w' : List jC), b = w.length → w'.length = b + 1 → w'[b]? = some (.inl (1, xs)) → (∀ c, c < b → w'[c]? = w[c]?) → J X M d (kc - 1) (ks - xs.length) (pc + 3) L (.ref b :: st) w' Q) : J X M d kc ks pc L (.ref a :: st) w Q := by
  refine J_cloneB hdg hl hsame hnat hinst hsel hcl hw hf hd h8 hkc hks (kk _ _ rfl (by rw [List.length_append]; rfl) ?_ (fun c hc => List.getElem?_append_left hc))
  rw [List.getElem?_append_right (Nat.le_refl _), Nat.sub_self]
  rfl
theorem J_newO {ci : Nat} {C : String} {T : u_T} {N index : Nat} {ty : Nat → FieldType} {fs : List Value} (hdg : decode M.2.1 pc = .ok (.new index, 3)) (hC : jCl ci C T N ty) (hcl : Cond.classLink M.1.cls index C ∈ jK) (hins : Cond.instantiable C N ∈ jK) (hini : Cond.initialized C ∈ jK)
    (hfs : ∀ j, j < N → defaultValue (ty j) = vp_V (fs.map (jT X)) j) (hkc : 1 ≤ kc) (hks : N ≤ ks)
    (kk : ∀ (b : Nat) (w' : List jC), b = w.length → w'.length = b + 1 → w'[b]? = some (.inr (ci, fs)) → (∀ c, c < b → w'[c]? = w[c]?) → J X M d (kc - 1) (ks - N) (pc + 3) L (.ref b :: st) w' Q) : J X M d kc ks pc L st w Q := by
  refine J_new hdg hC hcl hins hini hfs hkc hks (kk _ _ rfl (by rw [List.length_append]; rfl) ?_ (fun c hc => List.getElem?_append_left hc))
  rw [List.getElem?_append_right (Nat.le_refl _), Nat.sub_self]
  rfl
theorem J_castB {index a : Nat} {xs : List Int32} (hdg : decode M.2.1 pc = .ok (.checkcast index, 3)) (hl : Cond.classLink M.1.cls index "[B" ∈ jK) (hw : w[a]? = some (.inl (1, xs))) (kk : J X M d kc ks (pc + 3) L (.ref a :: st) w Q) : J X M d kc ks pc L (.ref a :: st) w Q := by
  intro p e R s m args below meth c C9 H locs cells slots ls hH hS hL h1 h2
  have hA := jCtx_amb C9
  have hnm : s.vm.findClass "[B" = some (X.2.2.2.2.1 1) := (hA.2.1.2 1 _ rfl).2
  have hP := jH_at hH hw (fun _ e => by cases e)
  exact va_castA C9.1 C9.2.1 C9.2.2.2.1 (hA.word hl args) hP 0 rfl hnm hdg (kk p e R s m args below meth c C9 H locs cells slots ls hH hS hL h1 h2)
theorem J_inegG {a : Nat} (hdg : decode M.2.1 pc = .ok (.ineg, 1)) (k : J X M d kc ks (pc + 1) L (.int (nI a) :: st) w Q) : J X M d kc ks pc L (.int (-nI a) :: st) w Q := J_ineg hdg (by rw [Int32.neg_neg]; exact k)
theorem J_icmp_leG {a P : Nat} {y : Int32} {off : Int} {tgt : Nat} (hdg : decode M.2.1 pc = .ok (.if_icmp .le off, 3)) (ht : (pc : Int) + off = (tgt : Int)) (hy : y = -nI P) (ha : a < 2 ^ 31) (hP : P < 2 ^ 31) (kt : P ≤ a → J X M d kc ks tgt L st w Q) (kf : a < P → J X M d kc ks (pc + 3) L st w Q) : J X M d kc ks pc L (.int y :: .int (-nI a) :: st) w Q := by
  subst hy
  exact J_icmp_le hdg ht (fun h => kt ((sb_nle ha hP).mp h)) (fun h => kf (Nat.not_le.mp fun e => h ((sb_nle ha hP).mpr e)))
theorem J_icmp_gtG {a P : Nat} {y : Int32} {off : Int} {tgt : Nat} (hdg : decode M.2.1 pc = .ok (.if_icmp .gt off, 3)) (ht : (pc : Int) + off = (tgt : Int)) (hy : y = -nI P) (ha : a < 2 ^ 31) (hP : P < 2 ^ 31) (kt : a < P → J X M d kc ks tgt L st w Q) (kf : P ≤ a → J X M d kc ks (pc + 3) L st w Q) : J X M d kc ks pc L (.int y :: .int (-nI a) :: st) w Q := by
  subst hy
  exact J_icmp_gt hdg ht (fun h => kt ((sb_nlt hP ha).mp h)) (fun h => kf (Nat.not_lt.mp fun e => h ((sb_nlt hP ha).mpr e)))
theorem J_icmp_geG {a P : Nat} {y : Int32} {off : Int} {tgt : Nat} (hdg : decode M.2.1 pc = .ok (.if_icmp .ge off, 3)) (ht : (pc : Int) + off = (tgt : Int)) (hy : y = -nI P) (ha : a < 2 ^ 31) (hP : P < 2 ^ 31) (kt : a ≤ P → J X M d kc ks tgt L st w Q) (kf : P < a → J X M d kc ks (pc + 3) L st w Q) : J X M d kc ks pc L (.int y :: .int (-nI a) :: st) w Q := by
  subst hy
  exact J_icmp_ge hdg ht (fun h => kt ((sb_nle hP ha).mp h)) (fun h => kf (Nat.not_le.mp fun e => h ((sb_nle hP ha).mpr e)))
theorem div_G : ∀ i, i < 100 → ∀ j, j < 100 → -nI (100 * i + j) / nI 100 = -nI i := by decide +kernel
theorem J_idivG {a : Nat} (hdg : decode M.2.1 pc = .ok (.idiv, 1)) (ha : a < 10000) (k : J X M d kc ks (pc + 1) L (.int (-nI (a / 100)) :: st) w Q) : J X M d kc ks pc L (.int (nI 100) :: .int (-nI a) :: st) w Q := by
  have e := div_G (a / 100) (by omega) (a % 100) (by omega)
  rw [show 100 * (a / 100) + a % 100 = a by omega] at e
  exact J_idiv hdg (nI_ne0 (by decide) (by decide)) (by rw [e]; exact k)
theorem J_imulG {a b : Nat} (hdg : decode M.2.1 pc = .ok (.imul, 1)) (k : J X M d kc ks (pc + 1) L (.int (-nI (a * b)) :: st) w Q) : J X M d kc ks pc L (.int (nI b) :: .int (-nI a) :: st) w Q :=
  J_imul hdg (by rw [Int32.neg_mul, pk_mul]; exact k)
theorem J_isubG {a b : Nat} (hdg : decode M.2.1 pc = .ok (.isub, 1)) (h : b ≤ a) (k : J X M d kc ks (pc + 1) L (.int (nI (a - b)) :: st) w Q) : J X M d kc ks pc L (.int (-nI a) :: .int (-nI b) :: st) w Q :=
  J_isub hdg (by
    have e : -nI b - -nI a = nI (a - b) := by
      rw [← pk_sub h, Int32.sub_eq_add_neg, Int32.neg_neg, Int32.sub_eq_add_neg, Int32.add_comm]
    rw [e]
    exact k)
end JSB1
/-- how many digits -/
def dgs (x : Nat) : Nat := if x < 10 then 1 else if x < 100 then 2 else if x < 1000 then 3 else 4
theorem dgs_le (x : Nat) : 1 ≤ dgs x ∧ dgs x ≤ 4 := by
  unfold dgs
  (repeat' split) <;> omega
/-- how long the bytes are behind a call for room -/
def gL (m len : Nat) : Nat := if m ≤ len then len else if m ≤ 2 * len + 2 then 2 * len + 2 else m
theorem gL_d (m len : Nat) : (m ≤ len ∧ gL m len = len) ∨ (len < m ∧ m ≤ 2 * len + 2 ∧ gL m len = 2 * len + 2) ∨ (2 * len + 2 < m ∧ gL m len = m) := by
  unfold gL
  (repeat' split) <;> omega
/-- .. behind a word -/
def gw (c x len : Nat) : Nat := if c = 0 then gL (c + dgs x) len else gL (c + 1 + dgs x) (gL (c + 1) len)
theorem gw_d (c x len : Nat) : (c = 0 ∧ gw c x len = gL (c + dgs x) len) ∨ (0 < c ∧ gw c x len = gL (c + 1 + dgs x) (gL (c + 1) len)) := by
  unfold gw
  split
  · exact Or.inl ⟨by assumption, rfl⟩
  · exact Or.inr ⟨by omega, rfl⟩
theorem gw_f (c x len : Nat) : len ≤ gw c x len ∧ (gw c x len ≤ len ∨ gw c x len ≤ 2 * (c + 1 + dgs x)) := by
  have h0 := gw_d c x len
  have h1 := gL_d (c + dgs x) len
  have h2 := gL_d (c + 1) len
  have h3 := gL_d (c + 1 + dgs x) (gL (c + 1) len)
  omega
theorem df_J0 {X : jX} : ∀ j, j < 4 → defaultValue (tyJ0 j) = vp_V (([.null, .int (nI 0), .int (nI 0), .int (nI 0)] : List Value).map (jT X)) j := by
  intro j hj
  match j with
  | 0 => rfl
  | 1 => rfl
  | 2 => rfl
  | 3 => rfl
  | j + 4 => omega
theorem df_J4 {X : jX} : ∀ j, j < 4 → defaultValue (tyJ4 j) = vp_V (([.null, .int (nI 0), .int (nI 0), .int (nI 0)] : List Value).map (jT X)) j := by
  intro j hj
  match j with
  | 0 => rfl
  | 1 => rfl
  | 2 => rfl
  | 3 => rfl
  | j + 4 => omega
theorem dgs_1 {x : Nat} (h : x < 10) : dgs x = 1 := by
  unfold dgs
  rw [if_pos h]
theorem FR.sb {b b' a v : Nat} {w w' w'' : List jC} (h : FR b b' w w') (h' : FS a v w' w'') (ha : w.length ≤ a) (hv : w.length ≤ v) : FR b b' w w'' :=
  ⟨Nat.le_trans h.1 h'.1, h.2.1, fun i h1 h2 h3 => (h'.2 i (by omega) (by omega) (Nat.lt_of_lt_of_le h3 h.1)).trans (h.2.2 i h1 h2 h3)⟩
theorem FR.gr {b b' : Nat} {w w' w'' : List jC} (h : FR b b' w w') (hl : w'.length ≤ w''.length) (hn : ∀ i, i < w'.length → w''[i]? = w'[i]?) : FR b b' w w'' :=
  ⟨Nat.le_trans h.1 hl, h.2.1, fun i h1 h2 h3 => (hn i (Nat.lt_of_lt_of_le h3 h.1)).trans (h.2.2 i h1 h2 h3)⟩
theorem SH.fs {ρ : List (jC → Prop)} {a v : Nat} {w w' : List jC} (h : SH ρ w) (h' : FS a v w w') (ha : ρ.length ≤ a) (hv : ρ.length ≤ v) : SH ρ w' :=
  h.keep (fun i hi => h'.2 i (by omega) (by omega) (h.lt hi))
theorem SH.gr {ρ : List (jC → Prop)} {w w' : List jC} (h : SH ρ w) (hn : ∀ i, i < w.length → w'[i]? = w[i]?) : SH ρ w' := h.keep (fun i hi => hn i (h.lt hi))
theorem Fr.sb {K : Nat → Prop} {a v : Nat} {w w' w'' : List jC} (h : Fr K w w') (h' : FS a v w' w'') (ha : w.length ≤ a) (hv : w.length ≤ v) : Fr K w w'' :=
  ⟨Nat.le_trans h.1 h'.1, fun i h1 h3 => (h'.2 i (by omega) (by omega) (Nat.lt_of_lt_of_le h3 h.1)).trans (h.2 i h1 h3)⟩
theorem Fr.gr {K : Nat → Prop} {w w' w'' : List jC} (h : Fr K w w') (hl : w'.length ≤ w''.length) (hn : ∀ i, i < w'.length → w''[i]? = w'[i]?) : Fr K w w'' :=
  ⟨Nat.le_trans h.1 hl, fun i h1 h3 => (hn i (Nat.lt_of_lt_of_le h3 h.1)).trans (h.2 i h1 h3)⟩
