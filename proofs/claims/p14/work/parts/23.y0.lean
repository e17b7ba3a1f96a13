/-! exact contracts of the class: espec1 -/
set_option maxRecDepth 100000 in
set_option maxHeartbeats 4000000 in
theorem c_X6_has_atx {X : jX} (hs : X.1.stackTraces = false) {d : Nat} (hd : 0 ≤ d) {w : List jC} (m : Nat) (s : Nat) (hy0 : m < 2 ^ 31) (hy1 : s < 32) {kc ks : Nat} : jMet X mX6_has d kc ks [.int (nI m), .int (nI s)] w (pI (fun v => (v = nI 0 ∧ m.testBit s = false) ∨ (v = nI 1 ∧ m.testBit s = true)) (fun w' => w' = w)) := by
  refine jMet_of hs (by decide +kernel) (Nat.le_of_ble_eq_true rfl) (L := [some (.int (nI m)), some (.int (nI s))]) rfl ?_
  have h0 := Nat.div_le_self m (2 ^ s)
  have h1 := Nat.mod_lt (m / 2 ^ s) (show 0 < 2 ^ 1 by decide)
  refine J_iload_n (pc := 0) dX6_has_0 rfl rfl ?_
  refine J_iload_n (pc := 1) dX6_has_1 rfl rfl ?_
  refine J_ishrN (pc := 2) dX6_has_2 (by omega) (by omega) ?_
  refine J_iconst (pc := 3) (v := nI 1) dX6_has_3 (by decide) ?_
  refine J_iandN (pc := 4) 1 dX6_has_4 (by omega) (by decide) ?_
  refine J_iconst (pc := 5) (v := nI 1) dX6_has_5 (by decide) ?_
  refine J_icmp_neN (pc := 6) (tgt := 13) dX6_has_6 (by decide) (by omega) (by omega) (fun ht1 => ?_) (fun hf2 => ?_)
  · refine J_iconst (pc := 13) (v := nI 0) dX6_has_13 (by decide) ?_
    exact J_zret (pc := 14) dX6_has_14 rfl (nar_b (by first | decide | omega)) ⟨Or.inl ⟨rfl, (by exact tb_0 (by assumption))⟩, rfl⟩
  · refine J_iconst (pc := 9) (v := nI 1) dX6_has_9 (by decide) ?_
    refine J_goto (pc := 10) (tgt := 14) dX6_has_10 (by decide) ?_
    exact J_zret (pc := 14) dX6_has_14 rfl (nar_b (by first | decide | omega)) ⟨Or.inr (⟨rfl, (by exact tb_1 (by assumption))⟩), rfl⟩
set_option maxRecDepth 100000 in
set_option maxHeartbeats 4000000 in
theorem c_X6_howManyBelow_atx {X : jX} (hs : X.1.stackTraces = false) {d : Nat} (hd : 1 ≤ d) {w : List jC} (m : Nat) (s : Nat) (hy0 : m < 2 ^ 31) (hy1 : s < 31) {kc ks : Nat} : jMet X mX6_howManyBelow d kc ks [.int (nI m), .int (nI s)] w (pI (fun v => v = nI (cnt (fun i => m.testBit i) s)) (fun w' => w' = w)) := by
  refine jMet_of hs (by decide +kernel) (Nat.le_of_ble_eq_true rfl) (L := [some (.int (nI m)), some (.int (nI s))]) rfl ?_
  have hdm : 0 ≤ d - 1 := by omega
  have hdp : d - 1 + 1 ≤ d := by omega
  refine J_iload_n (pc := 0) dX6_howManyBelow_0 rfl rfl ?_
  refine J_iconst (pc := 1) (v := nI 1) dX6_howManyBelow_1 (by decide) ?_
  refine J_iload_n (pc := 2) dX6_howManyBelow_2 rfl rfl ?_
  refine J_shlOne (pc := 3) dX6_howManyBelow_3 (by omega) ?_
  refine J_iconst (pc := 4) (v := nI 1) dX6_howManyBelow_4 (by decide) ?_
  refine J_isubN (pc := 5) dX6_howManyBelow_5 Nat.one_le_two_pow ?_
  refine J_iandP (pc := 6) dX6_howManyBelow_6 (by omega) (by omega) ?_
  refine J_callS0 (pc := 7) (M := mX6_howManyBelow) (as := [.int (nI (m % 2 ^ s))]) dX6_howManyBelow_7 fw_J6_bitCount_0f7a4 fl_X6_220 fs_J6_bitCount_0f7a4 rfl (c_J6_bitCount_0f7a4_atx hs (d := d - 1) (Nat.le_trans (by decide) hdm) (w := w) (nI (m % 2 ^ s)) (kc := 0) (ks := 0)) hdp (st := []) (Nat.le_of_ble_eq_true rfl) rfl (kr_P fun v1 hv1 => ?_) kx_I
  subst hv1
  exact J_iret (pc := 10) dX6_howManyBelow_10 rfl ⟨(congrArg nI (by exact pc_below hy0 (by omega))), rfl⟩
set_option maxRecDepth 100000 in
set_option maxHeartbeats 4000000 in
theorem c_X6_quotient_atx {X : jX} (hs : X.1.stackTraces = false) {d : Nat} (hd : 0 ≤ d) {w : List jC} (a : Nat) (s : Nat) (hy0 : a < 2 ^ 31) (hy1 : s < 2 ^ 31) (hy2 : 1 ≤ s) {kc ks : Nat} : jMet X mX6_quotient d kc ks [.int (nI a), .int (nI s)] w (pI (fun v => v = nI (a / s)) (fun w' => w' = w)) := by
  refine jMet_of hs (by decide +kernel) (Nat.le_of_ble_eq_true rfl) (L := [some (.int (nI a)), some (.int (nI s))]) rfl ?_
  refine J_iload_n (pc := 0) dX6_quotient_0 rfl rfl ?_
  refine J_iconst (pc := 1) (v := nI 1) dX6_quotient_1 (by decide) ?_
  refine J_icmp_geN (pc := 2) (tgt := 9) dX6_quotient_2 (by decide) (by omega) (by omega) (fun ht1 => ?_) (fun hf2 => ?_)
  · refine J_iload_n (pc := 9) dX6_quotient_9 rfl rfl ?_
    refine J_iload_n (pc := 10) dX6_quotient_10 rfl rfl ?_
    refine J_idivN (pc := 11) dX6_quotient_11 (by omega) (by omega) (by omega) ?_
    exact J_iret (pc := 12) dX6_quotient_12 rfl ⟨rfl, rfl⟩
  · exact absurd hf2 (by omega)
set_option maxRecDepth 100000 in
set_option maxHeartbeats 4000000 in
theorem c_X2_goal_atx {X : jX} (hs : X.1.stackTraces = false) {d : Nat} (hd : 0 ≤ d) {w : List jC} (x : Nat) (p : Nat) (hy0 : x < 2 ^ (3 * 7)) (hy1 : p < 8) {kc ks : Nat} : jMet X mX2_goal d kc ks [.int (nI x), .int (nI p)] w (pI (fun v => v = nI (d8 x p)) (fun w' => w' = w)) := by
  refine jMet_of hs (by decide +kernel) (Nat.le_of_ble_eq_true rfl) (L := [some (.int (nI x)), some (.int (nI p))]) rfl ?_
  have h31_0 := lt31 hy0
  refine J_iload_n (pc := 0) dX2_goal_0 rfl rfl ?_
  refine J_iconst (pc := 1) (v := nI 3) dX2_goal_1 (by decide) ?_
  refine J_iload_n (pc := 2) dX2_goal_2 rfl rfl ?_
  refine J_imulN (pc := 3) dX2_goal_3 ?_
  refine J_ishrN (pc := 4) dX2_goal_4 (by omega) (by omega) ?_
  refine J_bipush (pc := 5) (v := nI 7) dX2_goal_5 (by decide) ?_
  have hm1 := Nat.div_le_self x (2 ^ (3 * p))
  refine J_iandN (pc := 7) 3 dX2_goal_7 (by omega) (by decide) ?_
  have hq2 := d8_lt x p
  show J X mX2_goal d kc ks 8 [some (.int (nI x)), some (.int (nI p))] [.int (nI (d8 x p))] w _
  exact J_iret (pc := 8) dX2_goal_8 rfl ⟨rfl, rfl⟩
set_option maxRecDepth 100000 in
set_option maxHeartbeats 4000000 in
theorem c_X2_with_atx {X : jX} (hs : X.1.stackTraces = false) {d : Nat} (hd : 0 ≤ d) {w : List jC} (x : Nat) (p : Nat) (g : Nat) (hy0 : x < 2 ^ (3 * 7)) (hy1 : p < 7) (hy2 : g < 8) {kc ks : Nat} : jMet X mX2_with d kc ks [.int (nI x), .int (nI p), .int (nI g)] w (pI (fun v => v = nI (w8 x p g)) (fun w' => w' = w)) := by
  refine jMet_of hs (by decide +kernel) (Nat.le_of_ble_eq_true rfl) (L := [some (.int (nI x)), some (.int (nI p)), some (.int (nI g))]) rfl ?_
  have h31_0 := lt31 hy0
  refine J_iload_n (pc := 0) dX2_with_0 rfl rfl ?_
  refine J_bipush (pc := 1) (v := nI 7) dX2_with_1 (by decide) ?_
  refine J_iconst (pc := 3) (v := nI 3) dX2_with_3 (by decide) ?_
  refine J_iload_n (pc := 4) dX2_with_4 rfl rfl ?_
  refine J_imulN (pc := 5) dX2_with_5 ?_
  refine J_ishlN (pc := 6) dX2_with_6 (by omega) (by exact put31 (by decide) (by omega)) ?_
  refine J_iconst (pc := 7) (v := (-1)) dX2_with_7 (by decide) ?_
  refine J_inv (pc := 8) dX2_with_8 (by exact put31 (by decide) (by omega)) ?_
  refine J_iandM (pc := 9) dX2_with_9 (by omega) (nt_lt _) ?_
  refine J_iload_n (pc := 10) dX2_with_10 rfl rfl ?_
  refine J_iconst (pc := 11) (v := nI 3) dX2_with_11 (by decide) ?_
  refine J_iload_n (pc := 12) dX2_with_12 rfl rfl ?_
  refine J_imulN (pc := 13) dX2_with_13 ?_
  refine J_ishlN (pc := 14) dX2_with_14 (by omega) (by exact put31 hy2 (by omega)) ?_
  refine J_iorN (pc := 15) dX2_with_15 (by exact Nat.lt_of_le_of_lt Nat.and_le_left h31_0) (by exact put31 hy2 (by omega)) ?_
  exact J_iret (pc := 16) dX2_with_16 rfl ⟨(congrArg nI (by rfl)), rfl⟩
set_option maxRecDepth 100000 in
set_option maxHeartbeats 4000000 in
theorem c_X2_both_atx {X : jX} (hs : X.1.stackTraces = false) {d : Nat} (hd : 0 ≤ d) {w : List jC} (x : Nat) (y : Nat) (hy0 : x < 2 ^ (3 * 7)) (hy1 : y < 2 ^ (3 * 7)) {kc ks : Nat} : jMet X mX2_both d kc ks [.int (nI x), .int (nI y)] w (pI (fun v => v = nI (c7 x y)) (fun w' => w' = w)) := by
  refine jMet_of hs (by decide +kernel) (Nat.le_of_ble_eq_true rfl) (L := [some (.int (nI x)), some (.int (nI y)), none, none]) rfl ?_
  have h31_0 := lt31 hy0
  have h31_1 := lt31 hy1
  refine J_iconst (pc := 0) (v := nI 0) dX2_both_0 (by decide) ?_
  refine J_istore_n (pc := 1) dX2_both_1 rfl (by decide) rfl ?_
  show J X mX2_both d kc ks 2 [some (.int (nI x)), some (.int (nI y)), some (.int (nI 0)), none] [] w _
  refine J_iconst (pc := 2) (v := nI 0) dX2_both_2 (by decide) ?_
  refine J_istore_n (pc := 3) dX2_both_3 rfl (by decide) rfl ?_
  show J X mX2_both d kc ks 4 [some (.int (nI x)), some (.int (nI y)), some (.int (nI 0)), some (.int (nI 0))] [] w _
  have lp4_1 : ∀ (fuel : Nat) (g : Nat), (g ≤ 7) → (7 - g < fuel) → J X mX2_both d kc ks 4 [some (.int (nI x)), some (.int (nI y)), some (.int (nI (mk8 (fun p => d8 y (d8 x p)) g))), some (.int (nI (3 * g)))] [] w (pI (fun v => v = nI (c7 x y)) (fun w' => w' = w)) := by
    intro fuellp4_1
    induction fuellp4_1 with
    | zero => intros; omega
    | succ fuellp4_1 ihlp4_1 =>
      intro g hv4_0 hf2
      refine J_iload_n (pc := 4) dX2_both_4 rfl rfl ?_
      refine J_bipush (pc := 5) (v := nI 21) dX2_both_5 (by decide) ?_
      refine J_icmp_geN (pc := 7) (tgt := 34) dX2_both_7 (by decide) (by omega) (by omega) (fun ht3 => ?_) (fun hf4 => ?_)
      · refine J_iload_n (pc := 34) dX2_both_34 rfl rfl ?_
        exact J_iret (pc := 35) dX2_both_35 rfl ⟨(congrArg nI (by rw [show g = 7 by omega]; rfl)), rfl⟩
      · refine J_iload_n (pc := 10) dX2_both_10 rfl rfl ?_
        refine J_iload_n (pc := 11) dX2_both_11 rfl rfl ?_
        refine J_iconst (pc := 12) (v := nI 3) dX2_both_12 (by decide) ?_
        refine J_iload_n (pc := 13) dX2_both_13 rfl rfl ?_
        refine J_iload_n (pc := 14) dX2_both_14 rfl rfl ?_
        refine J_ishrN (pc := 15) dX2_both_15 (by omega) (by omega) ?_
        refine J_bipush (pc := 16) (v := nI 7) dX2_both_16 (by decide) ?_
        have hm5 := Nat.div_le_self x (2 ^ (3 * g))
        refine J_iandN (pc := 18) 3 dX2_both_18 (by omega) (by decide) ?_
        have hq6 := d8_lt x g
        show J X mX2_both d kc ks 19 [some (.int (nI x)), some (.int (nI y)), some (.int (nI (mk8 (fun p => d8 y (d8 x p)) g))), some (.int (nI (3 * g)))] [.int (nI (d8 x g)), .int (nI 3), .int (nI y), .int (nI (mk8 (fun p => d8 y (d8 x p)) g))] w _
        refine J_imulN (pc := 19) dX2_both_19 ?_
        refine J_ishrN (pc := 20) dX2_both_20 (by omega) (by omega) ?_
        refine J_bipush (pc := 21) (v := nI 7) dX2_both_21 (by decide) ?_
        have hm7 := Nat.div_le_self y (2 ^ (3 * (d8 x g)))
        refine J_iandN (pc := 23) 3 dX2_both_23 (by omega) (by decide) ?_
        have hq8 := d8_lt y (d8 x g)
        show J X mX2_both d kc ks 24 [some (.int (nI x)), some (.int (nI y)), some (.int (nI (mk8 (fun p => d8 y (d8 x p)) g))), some (.int (nI (3 * g)))] [.int (nI (d8 y (d8 x g))), .int (nI (mk8 (fun p => d8 y (d8 x p)) g))] w _
        refine J_iload_n (pc := 24) dX2_both_24 rfl rfl ?_
        refine J_ishlN (pc := 25) dX2_both_25 (by omega) (by exact put31 (d8_lt _ _) (by omega)) ?_
        refine J_iorN (pc := 26) dX2_both_26 (by exact Nat.lt_of_lt_of_le (mk8_lt (fun _ => d8_lt _ _) g) (Nat.pow_le_pow_right (by decide) (by omega))) (by exact put31 (d8_lt _ _) (by omega)) ?_
        refine J_istore_n (pc := 27) dX2_both_27 rfl (by decide) rfl ?_
        show J X mX2_both d kc ks 28 [some (.int (nI x)), some (.int (nI y)), some (.int (nI ((mk8 (fun p => d8 y (d8 x p)) g) ||| ((d8 y (d8 x g)) * 2 ^ (3 * g))))), some (.int (nI (3 * g)))] [] w _
        refine J_iincN (pc := 28) (b := 3) dX2_both_28 rfl (by decide) (by decide) rfl ?_
        show J X mX2_both d kc ks 31 [some (.int (nI x)), some (.int (nI y)), some (.int (nI ((mk8 (fun p => d8 y (d8 x p)) g) ||| ((d8 y (d8 x g)) * 2 ^ (3 * g))))), some (.int (nI ((3 * g) + 3)))] [] w _
        refine J_goto (pc := 31) (tgt := 4) dX2_both_31 (by decide) ?_
        exact J_sub (L' := [some (.int (nI x)), some (.int (nI y)), some (.int (nI (mk8 (fun p => d8 y (d8 x p)) (g + 1)))), some (.int (nI (3 * (g + 1))))]) ⟨rfl, ⟨rfl, ⟨(congrArg (fun z => some (Value.int (nI z))) (show (mk8 (fun p => d8 y (d8 x p)) g) ||| ((d8 y (d8 x g)) * 2 ^ (3 * g)) = mk8 (fun p => d8 y (d8 x p)) (g + 1) by exact or_mk8 (f := fun p => d8 y (d8 x p)) (fun _ => d8_lt _ _) g)), ⟨(congrArg (fun z => some (Value.int (nI z))) (show (3 * g) + 3 = 3 * (g + 1) by omega)), trivial⟩⟩⟩⟩ (ihlp4_1 (g + 1) (by first | assumption | omega) (by omega))
  exact J_sub (L' := [some (.int (nI x)), some (.int (nI y)), some (.int (nI (mk8 (fun p => d8 y (d8 x p)) 0))), some (.int (nI (3 * 0)))]) ⟨rfl, ⟨rfl, ⟨(congrArg (fun z => some (Value.int (nI z))) (show 0 = mk8 (fun p => d8 y (d8 x p)) 0 by rfl)), ⟨(congrArg (fun z => some (Value.int (nI z))) (show 0 = 3 * 0 by rfl)), trivial⟩⟩⟩⟩ (lp4_1 _ 0 (by first | assumption | omega) (Nat.lt_succ_self _))
set_option maxRecDepth 100000 in
set_option maxHeartbeats 4000000 in
theorem c_X2_undone_atx {X : jX} (hs : X.1.stackTraces = false) {d : Nat} (hd : 0 ≤ d) {w : List jC} (x : Nat) (hy0 : x < 2 ^ (3 * 7)) (hy1 : ∀ p, p < 7 → d8 x p < 7) (hy2 : ∀ p q, p < 7 → q < 7 → d8 x p = d8 x q → p = q) {kc ks : Nat} : jMet X mX2_undone d kc ks [.int (nI x)] w (pI (fun v => v = nI (i7 x)) (fun w' => w' = w)) := by
  refine jMet_of hs (by decide +kernel) (Nat.le_of_ble_eq_true rfl) (L := [some (.int (nI x)), none, none]) rfl ?_
  have h31_0 := lt31 hy0
  refine J_iconst (pc := 0) (v := nI 0) dX2_undone_0 (by decide) ?_
  refine J_istore_n (pc := 1) dX2_undone_1 rfl (by decide) rfl ?_
  show J X mX2_undone d kc ks 2 [some (.int (nI x)), some (.int (nI 0)), none] [] w _
  refine J_iconst (pc := 2) (v := nI 0) dX2_undone_2 (by decide) ?_
  refine J_istore_n (pc := 3) dX2_undone_3 rfl (by decide) rfl ?_
  show J X mX2_undone d kc ks 4 [some (.int (nI x)), some (.int (nI 0)), some (.int (nI 0))] [] w _
  have lp4_1 : ∀ (fuel : Nat) (c2 : Nat), (c2 ≤ 7) → (7 - c2 < fuel) → J X mX2_undone d kc ks 4 [some (.int (nI x)), some (.int (nI (mk8 (fun v => so (d8 x) v c2) 7))), some (.int (nI c2))] [] w (pI (fun v => v = nI (i7 x)) (fun w' => w' = w)) := by
    intro fuellp4_1
    induction fuellp4_1 with
    | zero => intros; omega
    | succ fuellp4_1 ihlp4_1 =>
      intro c2 hv4_0 hf2
      refine J_iload_n (pc := 4) dX2_undone_4 rfl rfl ?_
      refine J_bipush (pc := 5) (v := nI 7) dX2_undone_5 (by decide) ?_
      refine J_icmp_geN (pc := 7) (tgt := 31) dX2_undone_7 (by decide) (by omega) (by omega) (fun ht3 => ?_) (fun hf4 => ?_)
      · refine J_iload_n (pc := 31) dX2_undone_31 rfl rfl ?_
        exact J_iret (pc := 32) dX2_undone_32 rfl ⟨(congrArg nI (by rw [show c2 = 7 by omega]; rfl)), rfl⟩
      · refine J_iload_n (pc := 10) dX2_undone_10 rfl rfl ?_
        refine J_iload_n (pc := 11) dX2_undone_11 rfl rfl ?_
        refine J_iconst (pc := 12) (v := nI 3) dX2_undone_12 (by decide) ?_
        refine J_iload_n (pc := 13) dX2_undone_13 rfl rfl ?_
        refine J_iconst (pc := 14) (v := nI 3) dX2_undone_14 (by decide) ?_
        refine J_iload_n (pc := 15) dX2_undone_15 rfl rfl ?_
        refine J_imulN (pc := 16) dX2_undone_16 ?_
        refine J_ishrN (pc := 17) dX2_undone_17 (by omega) (by omega) ?_
        refine J_bipush (pc := 18) (v := nI 7) dX2_undone_18 (by decide) ?_
        have hm5 := Nat.div_le_self x (2 ^ (3 * c2))
        refine J_iandN (pc := 20) 3 dX2_undone_20 (by omega) (by decide) ?_
        have hq6 := d8_lt x c2
        show J X mX2_undone d kc ks 21 [some (.int (nI x)), some (.int (nI (mk8 (fun v => so (d8 x) v c2) 7))), some (.int (nI c2))] [.int (nI (d8 x c2)), .int (nI 3), .int (nI c2), .int (nI (mk8 (fun v => so (d8 x) v c2) 7))] w _
        refine J_imulN (pc := 21) dX2_undone_21 ?_
        refine J_ishlN (pc := 22) dX2_undone_22 (by omega) (by exact put31 (by omega) (d8_lt _ _)) ?_
        refine J_iorN (pc := 23) dX2_undone_23 (by exact lt31 (mk8_lt (fun v => so_lt8 _ v _ (by omega)) 7)) (by exact put31 (by omega) (d8_lt _ _)) ?_
        refine J_istore_n (pc := 24) dX2_undone_24 rfl (by decide) rfl ?_
        show J X mX2_undone d kc ks 25 [some (.int (nI x)), some (.int (nI ((mk8 (fun v => so (d8 x) v c2) 7) ||| (c2 * 2 ^ (3 * (d8 x c2)))))), some (.int (nI c2))] [] w _
        refine J_iincN (pc := 25) (b := 1) dX2_undone_25 rfl (by decide) (by decide) rfl ?_
        show J X mX2_undone d kc ks 28 [some (.int (nI x)), some (.int (nI ((mk8 (fun v => so (d8 x) v c2) 7) ||| (c2 * 2 ^ (3 * (d8 x c2)))))), some (.int (nI (c2 + 1)))] [] w _
        refine J_goto (pc := 28) (tgt := 4) dX2_undone_28 (by decide) ?_
        exact J_sub (L' := [some (.int (nI x)), some (.int (nI (mk8 (fun v => so (d8 x) v (c2 + 1)) 7))), some (.int (nI (c2 + 1)))]) ⟨rfl, ⟨(congrArg (fun z => some (Value.int (nI z))) (show (mk8 (fun v => so (d8 x) v c2) 7) ||| (c2 * 2 ^ (3 * (d8 x c2))) = mk8 (fun v => so (d8 x) v (c2 + 1)) 7 by exact so_step (by omega) hy1 hy2)), ⟨rfl, trivial⟩⟩⟩ (ihlp4_1 (c2 + 1) (by first | assumption | omega) (by omega))
  exact J_sub (L' := [some (.int (nI x)), some (.int (nI (mk8 (fun v => so (d8 x) v 0) 7))), some (.int (nI 0))]) ⟨rfl, ⟨(congrArg (fun z => some (Value.int (nI z))) (show 0 = mk8 (fun v => so (d8 x) v 0) 7 by exact (mk8_0 7).symm)), ⟨rfl, trivial⟩⟩⟩ (lp4_1 _ 0 (by first | assumption | omega) (Nat.lt_succ_self _))
set_option maxRecDepth 100000 in
set_option maxHeartbeats 4000000 in
theorem c_X2_often_atx {X : jX} (hs : X.1.stackTraces = false) {d : Nat} (hd : 1 ≤ d) {w : List jC} (x : Nat) (t : Nat) (hy0 : x < 2 ^ (3 * 7)) (hy1 : t < 2 ^ 31) {kc ks : Nat} : jMet X mX2_often d kc ks [.int (nI x), .int (nI t)] w (pI (fun v => v = nI (it7 x t)) (fun w' => w' = w)) := by
  refine jMet_of hs (by decide +kernel) (Nat.le_of_ble_eq_true rfl) (L := [some (.int (nI x)), some (.int (nI t)), none, none]) rfl ?_
  have hdm : 0 ≤ d - 1 := by omega
  have hdp : d - 1 + 1 ≤ d := by omega
  refine J_ldc (pc := 0) (v := nI 1754760) dX2_often_0 (by have := fk_X2_11; exact this) ?_
  refine J_istore_n (pc := 2) dX2_often_2 rfl (by decide) rfl ?_
  show J X mX2_often d kc ks 3 [some (.int (nI x)), some (.int (nI t)), some (.int (nI 1754760)), none] [] w _
  refine J_iconst (pc := 3) (v := nI 0) dX2_often_3 (by decide) ?_
  refine J_istore_n (pc := 4) dX2_often_4 rfl (by decide) rfl ?_
  show J X mX2_often d kc ks 5 [some (.int (nI x)), some (.int (nI t)), some (.int (nI 1754760)), some (.int (nI 0))] [] w _
  have lp5_1 : ∀ (fuel : Nat) (c3 : Nat), (c3 ≤ t) → (t - c3 < fuel) → J X mX2_often d kc ks 5 [some (.int (nI x)), some (.int (nI t)), some (.int (nI (it7 x c3))), some (.int (nI c3))] [] w (pI (fun v => v = nI (it7 x t)) (fun w' => w' = w)) := by
    intro fuellp5_1
    induction fuellp5_1 with
    | zero => intros; omega
    | succ fuellp5_1 ihlp5_1 =>
      intro c3 hv5_0 hf2
      refine J_iload_n (pc := 5) dX2_often_5 rfl rfl ?_
      refine J_iload_n (pc := 6) dX2_often_6 rfl rfl ?_
      refine J_icmp_geN (pc := 7) (tgt := 22) dX2_often_7 (by decide) (by omega) (by omega) (fun ht3 => ?_) (fun hf4 => ?_)
      · refine J_iload_n (pc := 22) dX2_often_22 rfl rfl ?_
        exact J_iret (pc := 23) dX2_often_23 rfl ⟨(congrArg nI (by rw [show c3 = t by omega])), rfl⟩
      · refine J_iload_n (pc := 10) dX2_often_10 rfl rfl ?_
        refine J_iload_n (pc := 11) dX2_often_11 rfl rfl ?_
        refine J_callS0 (pc := 12) (M := mX2_often) (as := [.int (nI (it7 x c3)), .int (nI x)]) dX2_often_12 fw_X2_both fl_X2_12 fs_X2_both rfl (c_X2_both_atx hs (d := d - 1) (Nat.le_trans (by decide) hdm) (w := w) (it7 x c3) x (by exact it7_lt x c3) (by first | assumption | omega) (kc := 0) (ks := 0)) hdp (st := []) (Nat.le_of_ble_eq_true rfl) rfl (kr_P fun v5 hv5 => ?_) kx_I
        subst hv5
        refine J_istore_n (pc := 15) dX2_often_15 rfl (by decide) rfl ?_
        show J X mX2_often d kc ks 16 [some (.int (nI x)), some (.int (nI t)), some (.int (nI (c7 (it7 x c3) x))), some (.int (nI c3))] [] w _
        refine J_iincN (pc := 16) (b := 1) dX2_often_16 rfl (by decide) (by decide) rfl ?_
        show J X mX2_often d kc ks 19 [some (.int (nI x)), some (.int (nI t)), some (.int (nI (c7 (it7 x c3) x))), some (.int (nI (c3 + 1)))] [] w _
        refine J_goto (pc := 19) (tgt := 5) dX2_often_19 (by decide) ?_
        exact J_sub (L' := [some (.int (nI x)), some (.int (nI t)), some (.int (nI (it7 x (c3 + 1)))), some (.int (nI (c3 + 1)))]) ⟨rfl, ⟨rfl, ⟨(congrArg (fun z => some (Value.int (nI z))) (show c7 (it7 x c3) x = it7 x (c3 + 1) by rfl)), ⟨rfl, trivial⟩⟩⟩⟩ (ihlp5_1 (c3 + 1) (by first | assumption | omega) (by omega))
  exact J_sub (L' := [some (.int (nI x)), some (.int (nI t)), some (.int (nI (it7 x 0))), some (.int (nI 0))]) ⟨rfl, ⟨rfl, ⟨(congrArg (fun z => some (Value.int (nI z))) (show 1754760 = it7 x 0 by rfl)), ⟨rfl, trivial⟩⟩⟩⟩ (lp5_1 _ 0 (by first | assumption | omega) (Nat.lt_succ_self _))
set_option maxRecDepth 100000 in
set_option maxHeartbeats 4000000 in
theorem c_X2_factorial_atx {X : jX} (hs : X.1.stackTraces = false) {d : Nat} (hd : 0 ≤ d) {w : List jC} (t : Nat) (hy0 : t ≤ 12) {kc ks : Nat} : jMet X mX2_factorial d kc ks [.int (nI t)] w (pI (fun v => v = nI (fc t)) (fun w' => w' = w)) := by
  refine jMet_of hs (by decide +kernel) (Nat.le_of_ble_eq_true rfl) (L := [some (.int (nI t)), none, none]) rfl ?_
  refine J_iconst (pc := 0) (v := nI 1) dX2_factorial_0 (by decide) ?_
  refine J_istore_n (pc := 1) dX2_factorial_1 rfl (by decide) rfl ?_
  show J X mX2_factorial d kc ks 2 [some (.int (nI t)), some (.int (nI 1)), none] [] w _
  refine J_iconst (pc := 2) (v := nI 2) dX2_factorial_2 (by decide) ?_
  refine J_istore_n (pc := 3) dX2_factorial_3 rfl (by decide) rfl ?_
  show J X mX2_factorial d kc ks 4 [some (.int (nI t)), some (.int (nI 1)), some (.int (nI 2))] [] w _
  have lp4_1 : ∀ (fuel : Nat) (y1 : Nat) (c2 : Nat), (2 ≤ c2) → (c2 ≤ t + 1 ∨ c2 = 2) → (y1 = fc (c2 - 1)) → (t + 1 - c2 < fuel) → J X mX2_factorial d kc ks 4 [some (.int (nI t)), some (.int (nI y1)), some (.int (nI c2))] [] w (pI (fun v => v = nI (fc t)) (fun w' => w' = w)) := by
    intro fuellp4_1
    induction fuellp4_1 with
    | zero => intros; omega
    | succ fuellp4_1 ihlp4_1 =>
      intro y1 c2 hv4_0 hv4_1 hv4_2 hf2
      refine J_iload_n (pc := 4) dX2_factorial_4 rfl rfl ?_
      refine J_iload_n (pc := 5) dX2_factorial_5 rfl rfl ?_
      refine J_icmp_gtN (pc := 6) (tgt := 19) dX2_factorial_6 (by decide) (by omega) (by omega) (fun ht3 => ?_) (fun hf4 => ?_)
      · refine J_iload_n (pc := 19) dX2_factorial_19 rfl rfl ?_
        exact J_iret (pc := 20) dX2_factorial_20 rfl ⟨(congrArg nI (by rw [hv4_2]; exact fc_end hv4_0 (by omega) hv4_1)), rfl⟩
      · refine J_iload_n (pc := 9) dX2_factorial_9 rfl rfl ?_
        refine J_iload_n (pc := 10) dX2_factorial_10 rfl rfl ?_
        refine J_imulN (pc := 11) dX2_factorial_11 ?_
        refine J_istore_n (pc := 12) dX2_factorial_12 rfl (by decide) rfl ?_
        show J X mX2_factorial d kc ks 13 [some (.int (nI t)), some (.int (nI (y1 * c2))), some (.int (nI c2))] [] w _
        refine J_iincN (pc := 13) (b := 1) dX2_factorial_13 rfl (by decide) (by decide) rfl ?_
        show J X mX2_factorial d kc ks 16 [some (.int (nI t)), some (.int (nI (y1 * c2))), some (.int (nI (c2 + 1)))] [] w _
        refine J_goto (pc := 16) (tgt := 4) dX2_factorial_16 (by decide) ?_
        exact J_sub (L' := [some (.int (nI t)), some (.int (nI (y1 * c2))), some (.int (nI (c2 + 1)))]) ⟨rfl, ⟨rfl, ⟨rfl, trivial⟩⟩⟩ (ihlp4_1 (y1 * c2) (c2 + 1) (by first | assumption | omega) (by exact Or.inl (by omega)) (by rw [hv4_2, Nat.add_sub_cancel]; exact fc_s (by omega)) (by omega))
  exact J_sub (L' := [some (.int (nI t)), some (.int (nI 1)), some (.int (nI 2))]) ⟨rfl, ⟨rfl, ⟨rfl, trivial⟩⟩⟩ (lp4_1 _ 1 2 (by first | assumption | omega) (by exact Or.inr rfl) (by rfl) (Nat.lt_succ_self _))
set_option maxRecDepth 100000 in
set_option maxHeartbeats 4000000 in
theorem c_X2_numberOf_atx {X : jX} (hs : X.1.stackTraces = false) {d : Nat} (hd : 2 ≤ d) {w : List jC} (x : Nat) (k : Nat) (hy0 : x < 2 ^ (3 * 7)) (hy1 : k ≤ 7) (hy2 : Pn k (d8 x)) {kc ks : Nat} : jMet X mX2_numberOf d kc ks [.int (nI x), .int (nI k)] w (pI (fun v => v = nI (nuF (d8 x) 0 k k)) (fun w' => w' = w)) := by
  refine jMet_of hs (by decide +kernel) (Nat.le_of_ble_eq_true rfl) (L := [some (.int (nI x)), some (.int (nI k)), none, none, none, none]) rfl ?_
  have hdm : 1 ≤ d - 1 := by omega
  have hdp : d - 1 + 1 ≤ d := by omega
  have h31_0 := lt31 hy0
  have h2k : 2 ^ k ≤ 128 := Nat.le_trans (Nat.pow_le_pow_right (by decide) hy1) (by decide)
  refine J_iconst (pc := 0) (v := nI 0) dX2_numberOf_0 (by decide) ?_
  refine J_istore_n (pc := 1) dX2_numberOf_1 rfl (by decide) rfl ?_
  show J X mX2_numberOf d kc ks 2 [some (.int (nI x)), some (.int (nI k)), some (.int (nI 0)), none, none, none] [] w _
  refine J_iconst (pc := 2) (v := nI 1) dX2_numberOf_2 (by decide) ?_
  refine J_iload_n (pc := 3) dX2_numberOf_3 rfl rfl ?_
  refine J_shlOne (pc := 4) dX2_numberOf_4 (by omega) ?_
  refine J_iconst (pc := 5) (v := nI 1) dX2_numberOf_5 (by decide) ?_
  refine J_isubN (pc := 6) dX2_numberOf_6 Nat.one_le_two_pow ?_
  refine J_istore_n (pc := 7) dX2_numberOf_7 rfl (by decide) rfl ?_
  show J X mX2_numberOf d kc ks 8 [some (.int (nI x)), some (.int (nI k)), some (.int (nI 0)), some (.int (nI (2 ^ k - 1))), none, none] [] w _
  refine J_iconst (pc := 8) (v := nI 0) dX2_numberOf_8 (by decide) ?_
  refine J_istore (pc := 9) dX2_numberOf_9 (by decide) rfl ?_
  show J X mX2_numberOf d kc ks 11 [some (.int (nI x)), some (.int (nI k)), some (.int (nI 0)), some (.int (nI (2 ^ k - 1))), some (.int (nI 0)), none] [] w _
  have lp11_1 : ∀ (fuel : Nat) (y2 : Nat) (y3 : Nat) (c4 : Nat), (c4 ≤ k) → (y2 = nuF (d8 x) 0 k c4) → (FM k (d8 x) c4 y3) → (k - c4 < fuel) → J X mX2_numberOf d kc ks 11 [some (.int (nI x)), some (.int (nI k)), some (.int (nI y2)), some (.int (nI y3)), some (.int (nI c4)), none] [] w (pI (fun v => v = nI (nuF (d8 x) 0 k k)) (fun w' => w' = w)) := by
    intro fuellp11_1
    induction fuellp11_1 with
    | zero => intros; omega
    | succ fuellp11_1 ihlp11_1 =>
      intro y2 y3 c4 hv11_0 hv11_1 hv11_2 hf2
      refine J_iload (pc := 11) dX2_numberOf_11 rfl ?_
      refine J_iload_n (pc := 13) dX2_numberOf_13 rfl rfl ?_
      refine J_icmp_geN (pc := 14) (tgt := 54) dX2_numberOf_14 (by decide) (by omega) (by omega) (fun ht3 => ?_) (fun hf4 => ?_)
      · refine J_iload_n (pc := 54) dX2_numberOf_54 rfl rfl ?_
        exact J_iret (pc := 55) dX2_numberOf_55 rfl ⟨(congrArg nI (by rw [hv11_1, show c4 = k by omega])), rfl⟩
      · refine J_iload_n (pc := 17) dX2_numberOf_17 rfl rfl ?_
        refine J_iload (pc := 18) dX2_numberOf_18 rfl ?_
        refine J_callS0 (pc := 20) (M := mX2_numberOf) (as := [.int (nI x), .int (nI c4)]) dX2_numberOf_20 fw_X2_goal fl_X2_16 fs_X2_goal rfl (c_X2_goal_atx hs (d := d - 1) (Nat.le_trans (by decide) hdm) (w := w) x c4 (by first | assumption | omega) (by omega) (kc := 0) (ks := 0)) hdp (st := []) (Nat.le_of_ble_eq_true rfl) rfl (kr_P fun v5 hv5 => ?_) kx_I
        subst hv5
        have hq6 := d8_lt x c4
        refine J_istore (pc := 23) dX2_numberOf_23 (by decide) rfl ?_
        show J X mX2_numberOf d kc ks 25 [some (.int (nI x)), some (.int (nI k)), some (.int (nI y2)), some (.int (nI y3)), some (.int (nI c4)), some (.int (nI (d8 x c4)))] [] w _
        have hg := hy2.1 c4 (by omega)
        refine J_iload_n (pc := 25) dX2_numberOf_25 rfl rfl ?_
        refine J_iload_n (pc := 26) dX2_numberOf_26 rfl rfl ?_
        refine J_iload (pc := 27) dX2_numberOf_27 rfl ?_
        refine J_isubN (pc := 29) dX2_numberOf_29 (by omega) ?_
        refine J_imulN (pc := 30) dX2_numberOf_30 ?_
        refine J_iload_n (pc := 31) dX2_numberOf_31 rfl rfl ?_
        refine J_iload (pc := 32) dX2_numberOf_32 rfl ?_
        refine J_callSN0 (pc := 34) (M := mX2_numberOf) (as := [.int (nI y3), .int (nI (d8 x c4))]) dX2_numberOf_34 fw_X6_howManyBelow fl_X2_19 fs_X6_howManyBelow rfl (c_X6_howManyBelow_atx hs (d := d - 1) (Nat.le_trans (by decide) hdm) (w := w) y3 (d8 x c4) (by exact hv11_2.1) (by omega) (kc := 0) (ks := 0)) hdp (st := [.int (nI (y2 * (k - c4)))]) (Nat.le_of_ble_eq_true rfl) rfl (kr_P fun v7 hv7 => ?_) kx_I
        subst hv7
        refine J_iaddN (pc := 37) dX2_numberOf_37 ?_
        refine J_istore_n (pc := 38) dX2_numberOf_38 rfl (by decide) rfl ?_
        show J X mX2_numberOf d kc ks 39 [some (.int (nI x)), some (.int (nI k)), some (.int (nI ((y2 * (k - c4)) + (cnt (fun i => y3.testBit i) (d8 x c4))))), some (.int (nI y3)), some (.int (nI c4)), some (.int (nI (d8 x c4)))] [] w _
        refine J_iload_n (pc := 39) dX2_numberOf_39 rfl rfl ?_
        refine J_iconst (pc := 40) (v := nI 1) dX2_numberOf_40 (by decide) ?_
        refine J_iload (pc := 41) dX2_numberOf_41 rfl ?_
        refine J_shlOne (pc := 43) dX2_numberOf_43 (by omega) ?_
        refine J_iconst (pc := 44) (v := (-1)) dX2_numberOf_44 (by decide) ?_
        refine J_inv (pc := 45) dX2_numberOf_45 (by exact Nat.lt_of_lt_of_le (Nat.pow_lt_pow_right (by decide) (by omega : d8 x c4 < 31)) (by decide)) ?_
        refine J_iandM (pc := 46) dX2_numberOf_46 (by exact Nat.lt_trans hv11_2.1 (by decide)) (nt_lt _) ?_
        refine J_istore_n (pc := 47) dX2_numberOf_47 rfl (by decide) rfl ?_
        show J X mX2_numberOf d kc ks 48 [some (.int (nI x)), some (.int (nI k)), some (.int (nI ((y2 * (k - c4)) + (cnt (fun i => y3.testBit i) (d8 x c4))))), some (.int (nI (y3 &&& (nt (2 ^ (d8 x c4)))))), some (.int (nI c4)), some (.int (nI (d8 x c4)))] [] w _
        refine J_iincN (pc := 48) (b := 1) dX2_numberOf_48 rfl (by decide) (by decide) rfl ?_
        show J X mX2_numberOf d kc ks 51 [some (.int (nI x)), some (.int (nI k)), some (.int (nI ((y2 * (k - c4)) + (cnt (fun i => y3.testBit i) (d8 x c4))))), some (.int (nI (y3 &&& (nt (2 ^ (d8 x c4)))))), some (.int (nI (c4 + 1))), some (.int (nI (d8 x c4)))] [] w _
        refine J_goto (pc := 51) (tgt := 11) dX2_numberOf_51 (by decide) ?_
        exact J_sub (L' := [some (.int (nI x)), some (.int (nI k)), some (.int (nI ((y2 * (k - c4)) + (cnt (fun i => y3.testBit i) (d8 x c4))))), some (.int (nI (y3 &&& (nt (2 ^ (d8 x c4)))))), some (.int (nI (c4 + 1))), none]) ⟨rfl, ⟨rfl, ⟨rfl, ⟨rfl, ⟨rfl, trivial⟩⟩⟩⟩⟩ (ihlp11_1 ((y2 * (k - c4)) + (cnt (fun i => y3.testBit i) (d8 x c4))) (y3 &&& (nt (2 ^ (d8 x c4)))) (c4 + 1) (by first | assumption | omega) (by rw [hv11_1, FM_below hv11_2 (by omega), cF_les hy2 (by omega)]; rfl) (by exact FM_s (by omega) hv11_2) (by omega))
  exact J_sub (L' := [some (.int (nI x)), some (.int (nI k)), some (.int (nI 0)), some (.int (nI (2 ^ k - 1))), some (.int (nI 0)), none]) ⟨rfl, ⟨rfl, ⟨rfl, ⟨rfl, ⟨rfl, trivial⟩⟩⟩⟩⟩ (lp11_1 _ 0 (2 ^ k - 1) 0 (by first | assumption | omega) (by rfl) (by exact FM_0 hy1 _) (Nat.lt_succ_self _))
set_option maxRecDepth 100000 in
set_option maxHeartbeats 4000000 in
theorem c_X2_bitAt_atx {X : jX} (hs : X.1.stackTraces = false) {d : Nat} (hd : 2 ≤ d) {w : List jC} (m : Nat) (i : Nat) (hy0 : m < 2 ^ 31) (hy1 : i < cnt (fun z => m.testBit z) 7) {kc ks : Nat} : jMet X mX2_bitAt d kc ks [.int (nI m), .int (nI i)] w (pI (fun v => ∃ j : Nat, v = nI j ∧ j < 7 ∧ m.testBit j = true ∧ cnt (fun z => m.testBit z) j = i) (fun w' => w' = w)) := by
  refine jMet_of hs (by decide +kernel) (Nat.le_of_ble_eq_true rfl) (L := [some (.int (nI m)), some (.int (nI i)), none]) rfl ?_
  have hdm : 1 ≤ d - 1 := by omega
  have hdp : d - 1 + 1 ≤ d := by omega
  obtain ⟨K, hK1, hK2, hK3⟩ := bit_at 7 hy1
  have hc7 := cnt_le (fun z => m.testBit z) 7
  refine J_iconst (pc := 0) (v := nI 0) dX2_bitAt_0 (by decide) ?_
  refine J_istore_n (pc := 1) dX2_bitAt_1 rfl (by decide) rfl ?_
  show J X mX2_bitAt d kc ks 2 [some (.int (nI m)), some (.int (nI i)), some (.int (nI 0))] [] w _
  have lp2_1 : ∀ (fuel : Nat) (c2 : Nat), (c2 ≤ K) → (7 - c2 < fuel) → J X mX2_bitAt d kc ks 2 [some (.int (nI m)), some (.int (nI i)), some (.int (nI c2))] [] w (pI (fun v => ∃ j : Nat, v = nI j ∧ j < 7 ∧ m.testBit j = true ∧ cnt (fun z => m.testBit z) j = i) (fun w' => w' = w)) := by
    intro fuellp2_1
    induction fuellp2_1 with
    | zero => intros; omega
    | succ fuellp2_1 ihlp2_1 =>
      intro c2 hv2_0 hf2
      refine J_iload_n (pc := 2) dX2_bitAt_2 rfl rfl ?_
      refine J_bipush (pc := 3) (v := nI 7) dX2_bitAt_3 (by decide) ?_
      refine J_icmp_geN (pc := 5) (tgt := 33) dX2_bitAt_5 (by decide) (by omega) (by omega) (fun ht3 => ?_) (fun hf4 => ?_)
      · refine J_iconst (pc := 33) (v := nI 0) dX2_bitAt_33 (by decide) ?_
        exact J_iret (pc := 34) dX2_bitAt_34 rfl ⟨⟨0, rfl, by exact absurd hK1 (by omega)⟩, rfl⟩
      · refine J_iload_n (pc := 8) dX2_bitAt_8 rfl rfl ?_
        refine J_iload_n (pc := 9) dX2_bitAt_9 rfl rfl ?_
        refine J_callSN0 (pc := 10) (M := mX2_bitAt) (as := [.int (nI m), .int (nI c2)]) dX2_bitAt_10 fw_X6_has fl_X2_36 fs_X6_has rfl (c_X6_has_atx hs (d := d - 1) (Nat.le_trans (by decide) hdm) (w := w) m c2 (by first | assumption | omega) (by first | assumption | omega) (kc := 0) (ks := 0)) hdp (st := []) (Nat.le_of_ble_eq_true rfl) rfl (kr_P fun v5 hv5 => ?_) kx_I
        rcases hv5 with ⟨rfl, hk5_0⟩ | ⟨rfl, hk5_0⟩
        · refine J_if_eqN (pc := 13) (tgt := 27) dX2_bitAt_13 (by decide) (by decide) (fun _ => ?_) (fun h => absurd h (by decide))
          refine J_iincN (pc := 27) (b := 1) dX2_bitAt_27 rfl (by decide) (by decide) rfl ?_
          show J X mX2_bitAt d kc ks 30 [some (.int (nI m)), some (.int (nI i)), some (.int (nI (c2 + 1)))] [] w _
          refine J_goto (pc := 30) (tgt := 2) dX2_bitAt_30 (by decide) ?_
          exact J_sub (L' := [some (.int (nI m)), some (.int (nI i)), some (.int (nI (c2 + 1)))]) ⟨rfl, ⟨rfl, ⟨rfl, trivial⟩⟩⟩ (ihlp2_1 (c2 + 1) (by first | exact bit_ne0 hv2_0 hK2 (by assumption) | exact bit_ne1 hv2_0 hK3 (by assumption)) (by omega))
        · refine J_if_eqN (pc := 13) (tgt := 27) dX2_bitAt_13 (by decide) (by decide) (fun h => absurd h (by decide)) (fun _ => ?_)
          refine J_iload_n (pc := 16) dX2_bitAt_16 rfl rfl ?_
          refine J_iload_n (pc := 17) dX2_bitAt_17 rfl rfl ?_
          refine J_callSN0 (pc := 18) (M := mX2_bitAt) (as := [.int (nI m), .int (nI c2)]) dX2_bitAt_18 fw_X6_howManyBelow fl_X2_19 fs_X6_howManyBelow rfl (c_X6_howManyBelow_atx hs (d := d - 1) (Nat.le_trans (by decide) hdm) (w := w) m c2 (by first | assumption | omega) (by first | assumption | omega) (kc := 0) (ks := 0)) hdp (st := []) (Nat.le_of_ble_eq_true rfl) rfl (kr_P fun v6 hv6 => ?_) kx_I
          subst hv6
          refine J_iload_n (pc := 21) dX2_bitAt_21 rfl rfl ?_
          have hcb := cnt_le (fun i => m.testBit i) c2
          refine J_icmp_neN (pc := 22) (tgt := 27) dX2_bitAt_22 (by decide) (by omega) (by omega) (fun ht7 => ?_) (fun hf8 => ?_)
          · refine J_iincN (pc := 27) (b := 1) dX2_bitAt_27 rfl (by decide) (by decide) rfl ?_
            show J X mX2_bitAt d kc ks 30 [some (.int (nI m)), some (.int (nI i)), some (.int (nI (c2 + 1)))] [] w _
            refine J_goto (pc := 30) (tgt := 2) dX2_bitAt_30 (by decide) ?_
            exact J_sub (L' := [some (.int (nI m)), some (.int (nI i)), some (.int (nI (c2 + 1)))]) ⟨rfl, ⟨rfl, ⟨rfl, trivial⟩⟩⟩ (ihlp2_1 (c2 + 1) (by first | exact bit_ne0 hv2_0 hK2 (by assumption) | exact bit_ne1 hv2_0 hK3 (by assumption)) (by omega))
          · refine J_iload_n (pc := 25) dX2_bitAt_25 rfl rfl ?_
            exact J_iret (pc := 26) dX2_bitAt_26 rfl ⟨⟨c2, rfl, by exact ⟨by omega, by assumption, by assumption⟩⟩, rfl⟩
  exact J_sub (L' := [some (.int (nI m)), some (.int (nI i)), some (.int (nI 0))]) ⟨rfl, ⟨rfl, ⟨rfl, trivial⟩⟩⟩ (lp2_1 _ 0 (by omega) (Nat.lt_succ_self _))
set_option maxRecDepth 100000 in
set_option maxHeartbeats 4000000 in
theorem c_X2_withNumber_atx {X : jX} (hs : X.1.stackTraces = false) {d : Nat} (hd : 3 ≤ d) {w : List jC} (num : Nat) (k : Nat) (hy0 : num < fc k) (hy1 : 1 ≤ k) (hy2 : k ≤ 7) {kc ks : Nat} : jMet X mX2_withNumber d kc ks [.int (nI num), .int (nI k)] w (pI (fun v => v = nI (mkM k (rwF k num))) (fun w' => w' = w)) := by
  refine jMet_of hs (by decide +kernel) (Nat.le_of_ble_eq_true rfl) (L := [some (.int (nI num)), some (.int (nI k)), none, none, none, none, none, none, none]) rfl ?_
  have hdm : 2 ≤ d - 1 := by omega
  have hdp : d - 1 + 1 ≤ d := by omega
  have hf7 := fc_7 hy2
  have h2k : 2 ^ k ≤ 128 := Nat.le_trans (Nat.pow_le_pow_right (by decide) hy2) (by decide)
  refine J_ldc (pc := 0) (v := nI 1754760) dX2_withNumber_0 (by have := fk_X2_11; exact this) ?_
  refine J_istore_n (pc := 2) dX2_withNumber_2 rfl (by decide) rfl ?_
  show J X mX2_withNumber d kc ks 3 [some (.int (nI num)), some (.int (nI k)), some (.int (nI 1754760)), none, none, none, none, none, none] [] w _
  refine J_iload_n (pc := 3) dX2_withNumber_3 rfl rfl ?_
  refine J_istore_n (pc := 4) dX2_withNumber_4 rfl (by decide) rfl ?_
  show J X mX2_withNumber d kc ks 5 [some (.int (nI num)), some (.int (nI k)), some (.int (nI 1754760)), some (.int (nI num)), none, none, none, none, none] [] w _
  refine J_iconst (pc := 5) (v := nI 1) dX2_withNumber_5 (by decide) ?_
  refine J_iload_n (pc := 6) dX2_withNumber_6 rfl rfl ?_
  refine J_shlOne (pc := 7) dX2_withNumber_7 (by omega) ?_
  refine J_iconst (pc := 8) (v := nI 1) dX2_withNumber_8 (by decide) ?_
  refine J_isubN (pc := 9) dX2_withNumber_9 Nat.one_le_two_pow ?_
  refine J_istore (pc := 10) dX2_withNumber_10 (by decide) rfl ?_
  show J X mX2_withNumber d kc ks 12 [some (.int (nI num)), some (.int (nI k)), some (.int (nI 1754760)), some (.int (nI num)), some (.int (nI (2 ^ k - 1))), none, none, none, none] [] w _
  refine J_iconst (pc := 12) (v := nI 0) dX2_withNumber_12 (by decide) ?_
  refine J_istore (pc := 13) dX2_withNumber_13 (by decide) rfl ?_
  show J X mX2_withNumber d kc ks 15 [some (.int (nI num)), some (.int (nI k)), some (.int (nI 1754760)), some (.int (nI num)), some (.int (nI (2 ^ k - 1))), some (.int (nI 0)), none, none, none] [] w _
  have lp15_1 : ∀ (fuel : Nat) (y2 : Nat) (y3 : Nat) (y4 : Nat) (c5 : Nat), (c5 ≤ k) → (WN k num c5 y2 y3 y4) → (k - c5 < fuel) → J X mX2_withNumber d kc ks 15 [some (.int (nI num)), some (.int (nI k)), some (.int (nI y2)), some (.int (nI y3)), some (.int (nI y4)), some (.int (nI c5)), none, none, none] [] w (pI (fun v => v = nI (mkM k (rwF k num))) (fun w' => w' = w)) := by
    intro fuellp15_1
    induction fuellp15_1 with
    | zero => intros; omega
    | succ fuellp15_1 ihlp15_1 =>
      intro y2 y3 y4 c5 hv15_0 hv15_1 hf2
      refine J_iload (pc := 15) dX2_withNumber_15 rfl ?_
      refine J_iload_n (pc := 17) dX2_withNumber_17 rfl rfl ?_
      refine J_icmp_geN (pc := 18) (tgt := 83) dX2_withNumber_18 (by decide) (by omega) (by omega) (fun ht3 => ?_) (fun hf4 => ?_)
      · refine J_iload_n (pc := 83) dX2_withNumber_83 rfl rfl ?_
        exact J_iret (pc := 84) dX2_withNumber_84 rfl ⟨(congrArg nI (by exact WN_end hy0 hy1 hy2 (show c5 = k by omega) hv15_1)), rfl⟩
      · refine J_iload_n (pc := 21) dX2_withNumber_21 rfl rfl ?_
        refine J_iconst (pc := 22) (v := nI 1) dX2_withNumber_22 (by decide) ?_
        refine J_isubN (pc := 23) dX2_withNumber_23 (by omega) ?_
        refine J_iload (pc := 24) dX2_withNumber_24 rfl ?_
        refine J_isubN (pc := 26) dX2_withNumber_26 (by omega) ?_
        refine J_callS0 (pc := 27) (M := mX2_withNumber) (as := [.int (nI ((k - 1) - c5))]) dX2_withNumber_27 fw_X2_factorial fl_X2_22 fs_X2_factorial rfl (c_X2_factorial_atx hs (d := d - 1) (Nat.le_trans (by decide) hdm) (w := w) ((k - 1) - c5) (by omega) (kc := 0) (ks := 0)) hdp (st := []) (Nat.le_of_ble_eq_true rfl) rfl (kr_P fun v5 hv5 => ?_) kx_I
        subst hv5
        refine J_istore (pc := 30) dX2_withNumber_30 (by decide) rfl ?_
        show J X mX2_withNumber d kc ks 32 [some (.int (nI num)), some (.int (nI k)), some (.int (nI y2)), some (.int (nI y3)), some (.int (nI y4)), some (.int (nI c5)), some (.int (nI (fc ((k - 1) - c5)))), none, none] [] w _
        refine J_iload_n (pc := 32) dX2_withNumber_32 rfl rfl ?_
        refine J_iload (pc := 33) dX2_withNumber_33 rfl ?_
        refine J_callSN0 (pc := 35) (M := mX2_withNumber) (as := [.int (nI y3), .int (nI (fc ((k - 1) - c5)))]) dX2_withNumber_35 fw_X6_quotient fl_X2_26 fs_X6_quotient rfl (c_X6_quotient_atx hs (d := d - 1) (Nat.le_trans (by decide) hdm) (w := w) y3 (fc ((k - 1) - c5)) (by have := hv15_1.2.2.1; have := fc_7 (show k - c5 ≤ 7 by omega); omega) (by have := fc_7 (show k - 1 - c5 ≤ 7 by omega); omega) (by exact fc_pos _) (kc := 0) (ks := 0)) hdp (st := []) (Nat.le_of_ble_eq_true rfl) rfl (kr_P fun v6 hv6 => ?_) kx_I
        subst hv6
        refine J_istore (pc := 38) dX2_withNumber_38 (by decide) rfl ?_
        show J X mX2_withNumber d kc ks 40 [some (.int (nI num)), some (.int (nI k)), some (.int (nI y2)), some (.int (nI y3)), some (.int (nI y4)), some (.int (nI c5)), some (.int (nI (fc ((k - 1) - c5)))), some (.int (nI (y3 / (fc ((k - 1) - c5))))), none] [] w _
        refine J_iload (pc := 40) dX2_withNumber_40 rfl ?_
        refine J_iload (pc := 42) dX2_withNumber_42 rfl ?_
        refine J_callS0 (pc := 44) (M := mX2_withNumber) (as := [.int (nI y4), .int (nI (y3 / (fc ((k - 1) - c5))))]) dX2_withNumber_44 fw_X2_bitAt fl_X2_29 fs_X2_bitAt rfl (c_X2_bitAt_atx hs (d := d - 1) (Nat.le_trans (by decide) hdm) (w := w) y4 (y3 / (fc ((k - 1) - c5))) (by exact hv15_1.2.2.2.2.1.1) (by exact WN_idx hy2 (by omega) hv15_1) (kc := 0) (ks := 0)) hdp (st := []) (Nat.le_of_ble_eq_true rfl) rfl (kr_P fun v7 hv7 => ?_) kx_I
        obtain ⟨k7, rfl, hk7⟩ := hv7
        obtain ⟨hb1, hb2, hb3⟩ := hk7
        refine J_istore (pc := 47) dX2_withNumber_47 (by decide) rfl ?_
        show J X mX2_withNumber d kc ks 49 [some (.int (nI num)), some (.int (nI k)), some (.int (nI y2)), some (.int (nI y3)), some (.int (nI y4)), some (.int (nI c5)), some (.int (nI (fc ((k - 1) - c5)))), some (.int (nI (y3 / (fc ((k - 1) - c5))))), some (.int (nI k7))] [] w _
        refine J_iload_n (pc := 49) dX2_withNumber_49 rfl rfl ?_
        refine J_iload (pc := 50) dX2_withNumber_50 rfl ?_
        refine J_iload (pc := 52) dX2_withNumber_52 rfl ?_
        refine J_imulN (pc := 54) dX2_withNumber_54 ?_
        refine J_isubN (pc := 55) dX2_withNumber_55 (by exact Nat.div_mul_le_self _ _) ?_
        refine J_istore_n (pc := 56) dX2_withNumber_56 rfl (by decide) rfl ?_
        show J X mX2_withNumber d kc ks 57 [some (.int (nI num)), some (.int (nI k)), some (.int (nI y2)), some (.int (nI (y3 - ((y3 / (fc ((k - 1) - c5))) * (fc ((k - 1) - c5)))))), some (.int (nI y4)), some (.int (nI c5)), some (.int (nI (fc ((k - 1) - c5)))), some (.int (nI (y3 / (fc ((k - 1) - c5))))), some (.int (nI k7))] [] w _
        refine J_iload (pc := 57) dX2_withNumber_57 rfl ?_
        refine J_iconst (pc := 59) (v := nI 1) dX2_withNumber_59 (by decide) ?_
        refine J_iload (pc := 60) dX2_withNumber_60 rfl ?_
        refine J_shlOne (pc := 62) dX2_withNumber_62 (by omega) ?_
        refine J_iconst (pc := 63) (v := (-1)) dX2_withNumber_63 (by decide) ?_
        refine J_inv (pc := 64) dX2_withNumber_64 (by exact Nat.pow_lt_pow_right (by decide) (by omega)) ?_
        refine J_iandM (pc := 65) dX2_withNumber_65 (by have := hv15_1.2.2.2.2.1.1; omega) (nt_lt _) ?_
        refine J_istore (pc := 66) dX2_withNumber_66 (by decide) rfl ?_
        show J X mX2_withNumber d kc ks 68 [some (.int (nI num)), some (.int (nI k)), some (.int (nI y2)), some (.int (nI (y3 - ((y3 / (fc ((k - 1) - c5))) * (fc ((k - 1) - c5)))))), some (.int (nI (y4 &&& (nt (2 ^ k7))))), some (.int (nI c5)), some (.int (nI (fc ((k - 1) - c5)))), some (.int (nI (y3 / (fc ((k - 1) - c5))))), some (.int (nI k7))] [] w _
        refine J_iload_n (pc := 68) dX2_withNumber_68 rfl rfl ?_
        refine J_iload (pc := 69) dX2_withNumber_69 rfl ?_
        refine J_iload (pc := 71) dX2_withNumber_71 rfl ?_
        refine J_callS0 (pc := 73) (M := mX2_withNumber) (as := [.int (nI y2), .int (nI c5), .int (nI k7)]) dX2_withNumber_73 fw_X2_with fl_X2_32 fs_X2_with rfl (c_X2_with_atx hs (d := d - 1) (Nat.le_trans (by decide) hdm) (w := w) y2 c5 k7 (by exact hv15_1.1) (by omega) (by omega) (kc := 0) (ks := 0)) hdp (st := []) (Nat.le_of_ble_eq_true rfl) rfl (kr_P fun v8 hv8 => ?_) kx_I
        subst hv8
        refine J_istore_n (pc := 76) dX2_withNumber_76 rfl (by decide) rfl ?_
        show J X mX2_withNumber d kc ks 77 [some (.int (nI num)), some (.int (nI k)), some (.int (nI (w8 y2 c5 k7))), some (.int (nI (y3 - ((y3 / (fc ((k - 1) - c5))) * (fc ((k - 1) - c5)))))), some (.int (nI (y4 &&& (nt (2 ^ k7))))), some (.int (nI c5)), some (.int (nI (fc ((k - 1) - c5)))), some (.int (nI (y3 / (fc ((k - 1) - c5))))), some (.int (nI k7))] [] w _
        refine J_iincN (pc := 77) (b := 1) dX2_withNumber_77 rfl (by decide) (by decide) rfl ?_
        show J X mX2_withNumber d kc ks 80 [some (.int (nI num)), some (.int (nI k)), some (.int (nI (w8 y2 c5 k7))), some (.int (nI (y3 - ((y3 / (fc ((k - 1) - c5))) * (fc ((k - 1) - c5)))))), some (.int (nI (y4 &&& (nt (2 ^ k7))))), some (.int (nI (c5 + 1))), some (.int (nI (fc ((k - 1) - c5)))), some (.int (nI (y3 / (fc ((k - 1) - c5))))), some (.int (nI k7))] [] w _
        refine J_goto (pc := 80) (tgt := 15) dX2_withNumber_80 (by decide) ?_
        exact J_sub (L' := [some (.int (nI num)), some (.int (nI k)), some (.int (nI (w8 y2 c5 k7))), some (.int (nI (y3 - ((y3 / (fc ((k - 1) - c5))) * (fc ((k - 1) - c5)))))), some (.int (nI (y4 &&& (nt (2 ^ k7))))), some (.int (nI (c5 + 1))), none, none, none]) ⟨rfl, ⟨rfl, ⟨rfl, ⟨rfl, ⟨rfl, ⟨rfl, trivial⟩⟩⟩⟩⟩⟩ (ihlp15_1 (w8 y2 c5 k7) (y3 - ((y3 / (fc ((k - 1) - c5))) * (fc ((k - 1) - c5)))) (y4 &&& (nt (2 ^ k7))) (c5 + 1) (by first | assumption | omega) (by exact WN_s hy2 (by omega) hv15_1 ⟨hb1, hb2, hb3⟩) (by omega))
  exact J_sub (L' := [some (.int (nI num)), some (.int (nI k)), some (.int (nI 1754760)), some (.int (nI num)), some (.int (nI (2 ^ k - 1))), some (.int (nI 0)), none, none, none]) ⟨rfl, ⟨rfl, ⟨rfl, ⟨rfl, ⟨rfl, ⟨rfl, trivial⟩⟩⟩⟩⟩⟩ (lp15_1 _ 1754760 num (2 ^ k - 1) 0 (by first | assumption | omega) (by exact WN_0 hy0 hy2) (Nat.lt_succ_self _))
set_option maxRecDepth 100000 in
set_option maxHeartbeats 4000000 in
theorem c_X2_source_atx {X : jX} (hs : X.1.stackTraces = false) {d : Nat} (hd : 1 ≤ d) {w : List jC} (x : Nat) (g : Nat) (hy0 : x < 2 ^ (3 * 7)) (hy1 : ∃ p, p < 7 ∧ d8 x p = g) {kc ks : Nat} : jMet X mX2_source d kc ks [.int (nI x), .int (nI g)] w (pI (fun v => ∃ j : Nat, v = nI j ∧ j < 7 ∧ d8 x j = g) (fun w' => w' = w)) := by
  refine jMet_of hs (by decide +kernel) (Nat.le_of_ble_eq_true rfl) (L := [some (.int (nI x)), some (.int (nI g)), none]) rfl ?_
  have hdm : 0 ≤ d - 1 := by omega
  have hdp : d - 1 + 1 ≤ d := by omega
  obtain ⟨K, hK1, hK2⟩ := hy1
  have hg8 := d8_lt x K
  refine J_iconst (pc := 0) (v := nI 0) dX2_source_0 (by decide) ?_
  refine J_istore_n (pc := 1) dX2_source_1 rfl (by decide) rfl ?_
  show J X mX2_source d kc ks 2 [some (.int (nI x)), some (.int (nI g)), some (.int (nI 0))] [] w _
  have lp2_1 : ∀ (fuel : Nat) (c2 : Nat), (∀ p, p < c2 → ¬ d8 x p = g) → (c2 ≤ 7) → (7 - c2 < fuel) → J X mX2_source d kc ks 2 [some (.int (nI x)), some (.int (nI g)), some (.int (nI c2))] [] w (pI (fun v => ∃ j : Nat, v = nI j ∧ j < 7 ∧ d8 x j = g) (fun w' => w' = w)) := by
    intro fuellp2_1
    induction fuellp2_1 with
    | zero => intros; omega
    | succ fuellp2_1 ihlp2_1 =>
      intro c2 hv2_0 hv2_1 hf2
      refine J_iload_n (pc := 2) dX2_source_2 rfl rfl ?_
      refine J_bipush (pc := 3) (v := nI 7) dX2_source_3 (by decide) ?_
      refine J_icmp_geN (pc := 5) (tgt := 25) dX2_source_5 (by decide) (by omega) (by omega) (fun ht3 => ?_) (fun hf4 => ?_)
      · refine J_iconst (pc := 25) (v := nI 0) dX2_source_25 (by decide) ?_
        exact J_iret (pc := 26) dX2_source_26 rfl ⟨⟨0, rfl, by exact absurd hK2 (hv2_0 K (by omega))⟩, rfl⟩
      · refine J_iload_n (pc := 8) dX2_source_8 rfl rfl ?_
        refine J_iload_n (pc := 9) dX2_source_9 rfl rfl ?_
        refine J_callS0 (pc := 10) (M := mX2_source) (as := [.int (nI x), .int (nI c2)]) dX2_source_10 fw_X2_goal fl_X2_16 fs_X2_goal rfl (c_X2_goal_atx hs (d := d - 1) (Nat.le_trans (by decide) hdm) (w := w) x c2 (by first | assumption | omega) (by first | assumption | omega) (kc := 0) (ks := 0)) hdp (st := []) (Nat.le_of_ble_eq_true rfl) rfl (kr_P fun v5 hv5 => ?_) kx_I
        subst hv5
        have hq6 := d8_lt x c2
        refine J_iload_n (pc := 13) dX2_source_13 rfl rfl ?_
        refine J_icmp_neN (pc := 14) (tgt := 19) dX2_source_14 (by decide) (by omega) (by omega) (fun ht7 => ?_) (fun hf8 => ?_)
        · refine J_iincN (pc := 19) (b := 1) dX2_source_19 rfl (by decide) (by decide) rfl ?_
          show J X mX2_source d kc ks 22 [some (.int (nI x)), some (.int (nI g)), some (.int (nI (c2 + 1)))] [] w _
          refine J_goto (pc := 22) (tgt := 2) dX2_source_22 (by decide) ?_
          exact J_sub (L' := [some (.int (nI x)), some (.int (nI g)), some (.int (nI (c2 + 1)))]) ⟨rfl, ⟨rfl, ⟨rfl, trivial⟩⟩⟩ (ihlp2_1 (c2 + 1) (by intro p hp; by_cases e : p = c2; (subst e; assumption); (exact hv2_0 p (by omega))) (by first | assumption | omega) (by omega))
        · refine J_iload_n (pc := 17) dX2_source_17 rfl rfl ?_
          exact J_iret (pc := 18) dX2_source_18 rfl ⟨⟨c2, rfl, by exact ⟨by omega, by assumption⟩⟩, rfl⟩
  exact J_sub (L' := [some (.int (nI x)), some (.int (nI g)), some (.int (nI 0))]) ⟨rfl, ⟨rfl, ⟨rfl, trivial⟩⟩⟩ (lp2_1 _ 0 (by intro p hp; omega) (by first | assumption | omega) (Nat.lt_succ_self _))
set_option maxRecDepth 100000 in
set_option maxHeartbeats 4000000 in
theorem c_X2_goals_atx {X : jX} (hs : X.1.stackTraces = false) {d : Nat} (hd : 1 ≤ d) {w : List jC} (x : Nat) (mk : Nat) (hy0 : x < 2 ^ (3 * 7)) (hy1 : mk < 2 ^ 31) {kc ks : Nat} : jMet X mX2_goals d kc ks [.int (nI x), .int (nI mk)] w (pI (fun v => ∃ r : Nat, v = nI r ∧ r < 2 ^ 8 ∧ ∀ v, r.testBit v = img (d8 x) mk v 7) (fun w' => w' = w)) := by
  refine jMet_of hs (by decide +kernel) (Nat.le_of_ble_eq_true rfl) (L := [some (.int (nI x)), some (.int (nI mk)), none, none]) rfl ?_
  have hdm : 0 ≤ d - 1 := by omega
  have hdp : d - 1 + 1 ≤ d := by omega
  refine J_iconst (pc := 0) (v := nI 0) dX2_goals_0 (by decide) ?_
  refine J_istore_n (pc := 1) dX2_goals_1 rfl (by decide) rfl ?_
  show J X mX2_goals d kc ks 2 [some (.int (nI x)), some (.int (nI mk)), some (.int (nI 0)), none] [] w _
  refine J_iconst (pc := 2) (v := nI 0) dX2_goals_2 (by decide) ?_
  refine J_istore_n (pc := 3) dX2_goals_3 rfl (by decide) rfl ?_
  show J X mX2_goals d kc ks 4 [some (.int (nI x)), some (.int (nI mk)), some (.int (nI 0)), some (.int (nI 0))] [] w _
  have lp4_1 : ∀ (fuel : Nat) (y2 : Nat) (c3 : Nat), (y2 < 2 ^ 8 ∧ ∀ v, y2.testBit v = img (d8 x) mk v c3) → (c3 ≤ 7) → (7 - c3 < fuel) → J X mX2_goals d kc ks 4 [some (.int (nI x)), some (.int (nI mk)), some (.int (nI y2)), some (.int (nI c3))] [] w (pI (fun v => ∃ r : Nat, v = nI r ∧ r < 2 ^ 8 ∧ ∀ v, r.testBit v = img (d8 x) mk v 7) (fun w' => w' = w)) := by
    intro fuellp4_1
    induction fuellp4_1 with
    | zero => intros; omega
    | succ fuellp4_1 ihlp4_1 =>
      intro y2 c3 hv4_0 hv4_1 hf2
      refine J_iload_n (pc := 4) dX2_goals_4 rfl rfl ?_
      refine J_bipush (pc := 5) (v := nI 7) dX2_goals_5 (by decide) ?_
      refine J_icmp_geN (pc := 7) (tgt := 34) dX2_goals_7 (by decide) (by omega) (by omega) (fun ht3 => ?_) (fun hf4 => ?_)
      · refine J_iload_n (pc := 34) dX2_goals_34 rfl rfl ?_
        exact J_iret (pc := 35) dX2_goals_35 rfl ⟨⟨y2, rfl, by have e : c3 = 7 := (by omega); subst e; exact hv4_0⟩, rfl⟩
      · refine J_iload_n (pc := 10) dX2_goals_10 rfl rfl ?_
        refine J_iload_n (pc := 11) dX2_goals_11 rfl rfl ?_
        refine J_callSN0 (pc := 12) (M := mX2_goals) (as := [.int (nI mk), .int (nI c3)]) dX2_goals_12 fw_X6_has fl_X2_36 fs_X6_has rfl (c_X6_has_atx hs (d := d - 1) (Nat.le_trans (by decide) hdm) (w := w) mk c3 (by first | assumption | omega) (by first | assumption | omega) (kc := 0) (ks := 0)) hdp (st := []) (Nat.le_of_ble_eq_true rfl) rfl (kr_P fun v5 hv5 => ?_) kx_I
        rcases hv5 with ⟨rfl, hk5_0⟩ | ⟨rfl, hk5_0⟩
        · refine J_if_eqN (pc := 15) (tgt := 28) dX2_goals_15 (by decide) (by decide) (fun _ => ?_) (fun h => absurd h (by decide))
          refine J_iincN (pc := 28) (b := 1) dX2_goals_28 rfl (by decide) (by decide) rfl ?_
          show J X mX2_goals d kc ks 31 [some (.int (nI x)), some (.int (nI mk)), some (.int (nI y2)), some (.int (nI (c3 + 1)))] [] w _
          refine J_goto (pc := 31) (tgt := 4) dX2_goals_31 (by decide) ?_
          exact J_sub (L' := [some (.int (nI x)), some (.int (nI mk)), some (.int (nI y2)), some (.int (nI (c3 + 1)))]) ⟨rfl, ⟨rfl, ⟨rfl, ⟨rfl, trivial⟩⟩⟩⟩ (ihlp4_1 y2 (c3 + 1) (by first | exact img_1 (d8_lt _ _) (by assumption) hv4_0 | exact img_n (by assumption) hv4_0) (by first | assumption | omega) (by omega))
        · refine J_if_eqN (pc := 15) (tgt := 28) dX2_goals_15 (by decide) (by decide) (fun h => absurd h (by decide)) (fun _ => ?_)
          refine J_iload_n (pc := 18) dX2_goals_18 rfl rfl ?_
          refine J_iconst (pc := 19) (v := nI 1) dX2_goals_19 (by decide) ?_
          refine J_iload_n (pc := 20) dX2_goals_20 rfl rfl ?_
          refine J_iload_n (pc := 21) dX2_goals_21 rfl rfl ?_
          refine J_callS0 (pc := 22) (M := mX2_goals) (as := [.int (nI x), .int (nI c3)]) dX2_goals_22 fw_X2_goal fl_X2_16 fs_X2_goal rfl (c_X2_goal_atx hs (d := d - 1) (Nat.le_trans (by decide) hdm) (w := w) x c3 (by first | assumption | omega) (by omega) (kc := 0) (ks := 0)) hdp (st := [.int (nI 1), .int (nI y2)]) (Nat.le_of_ble_eq_true rfl) rfl (kr_P fun v6 hv6 => ?_) kx_I
          subst hv6
          have hq7 := d8_lt x c3
          refine J_shlOne (pc := 25) dX2_goals_25 (by omega) ?_
          refine J_iorN (pc := 26) dX2_goals_26 (by have := hv4_0.1; omega) (by exact Nat.lt_of_lt_of_le (Nat.pow_lt_pow_right (by decide) (d8_lt x c3)) (by decide)) ?_
          refine J_istore_n (pc := 27) dX2_goals_27 rfl (by decide) rfl ?_
          show J X mX2_goals d kc ks 28 [some (.int (nI x)), some (.int (nI mk)), some (.int (nI (y2 ||| (2 ^ (d8 x c3))))), some (.int (nI c3))] [] w _
          refine J_iincN (pc := 28) (b := 1) dX2_goals_28 rfl (by decide) (by decide) rfl ?_
          show J X mX2_goals d kc ks 31 [some (.int (nI x)), some (.int (nI mk)), some (.int (nI (y2 ||| (2 ^ (d8 x c3))))), some (.int (nI (c3 + 1)))] [] w _
          refine J_goto (pc := 31) (tgt := 4) dX2_goals_31 (by decide) ?_
          exact J_sub (L' := [some (.int (nI x)), some (.int (nI mk)), some (.int (nI (y2 ||| (2 ^ (d8 x c3))))), some (.int (nI (c3 + 1)))]) ⟨rfl, ⟨rfl, ⟨rfl, ⟨rfl, trivial⟩⟩⟩⟩ (ihlp4_1 (y2 ||| (2 ^ (d8 x c3))) (c3 + 1) (by first | exact img_1 (d8_lt _ _) (by assumption) hv4_0 | exact img_n (by assumption) hv4_0) (by first | assumption | omega) (by omega))
  exact J_sub (L' := [some (.int (nI x)), some (.int (nI mk)), some (.int (nI 0)), some (.int (nI 0))]) ⟨rfl, ⟨rfl, ⟨rfl, ⟨rfl, trivial⟩⟩⟩⟩ (lp4_1 _ 0 0 (by exact img_0 _ _) (by first | assumption | omega) (Nat.lt_succ_self _))
