/-! two of java/lang/Math, told exactly -/
set_option maxRecDepth 100000 in
set_option maxHeartbeats 4000000 in
theorem c_J9_abs_0f7a4_atx {X : jX} (hs : X.1.stackTraces = false) {d : Nat} (hd : 0 ≤ d) {w : List jC} (a : Int32) {kc ks : Nat} : jMet X mJ9_abs_0f7a4 d kc ks [.int a] w (pI (fun v => v = absI a) (fun w' => w' = w)) := by
  refine jMet_ofF hs pf_J9_abs_0f7a4 rfl (Nat.le_of_ble_eq_true rfl) (L := [some (.int a)]) rfl ?_
  refine J_iload_n (pc := 0) dJ9_abs_0f7a4_0 rfl rfl ?_
  refine J_if_ge (pc := 1) (tgt := 9) dJ9_abs_0f7a4_1 (by decide) (fun ht1 => ?_) (fun hf2 => ?_)
  · refine J_iload_n (pc := 9) dJ9_abs_0f7a4_9 rfl rfl ?_
    exact J_iret (pc := 10) dJ9_abs_0f7a4_10 rfl ⟨(if_pos ht1).symm, rfl⟩
  · refine J_iload_n (pc := 4) dJ9_abs_0f7a4_4 rfl rfl ?_
    refine J_ineg (pc := 5) dJ9_abs_0f7a4_5 ?_
    refine J_goto (pc := 6) (tgt := 10) dJ9_abs_0f7a4_6 (by decide) ?_
    exact J_iret (pc := 10) dJ9_abs_0f7a4_10 rfl ⟨(if_neg hf2).symm, rfl⟩
set_option maxRecDepth 100000 in
set_option maxHeartbeats 4000000 in
theorem c_J9_floorMod_7cf53_atx {X : jX} (hs : X.1.stackTraces = false) {d : Nat} (hd : 0 ≤ d) {w : List jC} (a : Int32) (b : Int32) (hy0 : ¬ b = 0) {kc ks : Nat} : jMet X mJ9_floorMod_7cf53 d kc ks [.int a, .int b] w (pI (fun v => v = fmI a b) (fun w' => w' = w)) := by
  refine jMet_ofF hs pf_J9_floorMod_7cf53 rfl (Nat.le_of_ble_eq_true rfl) (L := [some (.int a), some (.int b), none]) rfl ?_
  refine J_iload_n (pc := 0) dJ9_floorMod_7cf53_0 rfl rfl ?_
  refine J_iload_n (pc := 1) dJ9_floorMod_7cf53_1 rfl rfl ?_
  refine J_irem (pc := 2) dJ9_floorMod_7cf53_2 hy0 ?_
  refine J_istore_n (pc := 3) dJ9_floorMod_7cf53_3 rfl (by decide) rfl ?_
  show J X mJ9_floorMod_7cf53 d kc ks 4 [some (.int a), some (.int b), some (.int (a - a / b * b))] [] w _
  refine J_iload_n (pc := 4) dJ9_floorMod_7cf53_4 rfl rfl ?_
  refine J_iload_n (pc := 5) dJ9_floorMod_7cf53_5 rfl rfl ?_
  refine J_ixor (pc := 6) dJ9_floorMod_7cf53_6 ?_
  refine J_if_ge (pc := 7) (tgt := 18) dJ9_floorMod_7cf53_7 (by decide) (fun ht1 => ?_) (fun hf1 => ?_)
  · refine J_iload_n (pc := 18) dJ9_floorMod_7cf53_18 rfl rfl ?_
    exact J_iret (pc := 19) dJ9_floorMod_7cf53_19 rfl ⟨by unfold fmI; rw [if_neg (Int32.not_lt.mpr ht1)], rfl⟩
  · refine J_iload_n (pc := 10) dJ9_floorMod_7cf53_10 rfl rfl ?_
    refine J_if_eq (pc := 11) (tgt := 18) dJ9_floorMod_7cf53_11 (by decide) (fun ht2 => ?_) (fun hf2 => ?_)
    · refine J_iload_n (pc := 18) dJ9_floorMod_7cf53_18 rfl rfl ?_
      exact J_iret (pc := 19) dJ9_floorMod_7cf53_19 rfl ⟨by unfold fmI; rw [if_pos (Int32.not_le.mp hf1), if_pos ht2], rfl⟩
    · refine J_iload_n (pc := 14) dJ9_floorMod_7cf53_14 rfl rfl ?_
      refine J_iload_n (pc := 15) dJ9_floorMod_7cf53_15 rfl rfl ?_
      refine J_iadd (pc := 16) dJ9_floorMod_7cf53_16 ?_
      exact J_iret (pc := 17) dJ9_floorMod_7cf53_17 rfl ⟨by unfold fmI; rw [if_pos (Int32.not_le.mp hf1), if_neg hf2], rfl⟩
