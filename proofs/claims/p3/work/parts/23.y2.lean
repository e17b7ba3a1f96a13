/-! exact contracts of the class: espec4 -/
set_option maxRecDepth 100000 in
set_option maxHeartbeats 4000000 in
theorem c_X2_ringOf_atx {X : jX} (hs : X.1.stackTraces = false) {d : Nat} (hd : 1 ≤ d) {w : List jC} (x : Nat) (p : Nat) (hy0 : x < 2 ^ (3 * 7)) (hy1 : Pn 7 (d8 x)) (hy2 : p < 7) {kc ks : Nat} : jMet X mX2_ringOf d kc ks [.int (nI x), .int (nI p)] w (pI (fun v => v = nI (rg x p)) (fun w' => w' = w)) := by
  refine jMet_of hs (by decide +kernel) (Nat.le_of_ble_eq_true rfl) (L := [some (.int (nI x)), some (.int (nI p)), none, none, none]) rfl ?_
  have hdm : 0 ≤ d - 1 := by omega
  have hdp : d - 1 + 1 ≤ d := by omega
  refine J_iconst (pc := 0) (v := nI 0) dX2_ringOf_0 (by decide) ?_
  refine J_istore_n (pc := 1) dX2_ringOf_1 rfl (by decide) rfl ?_
  show J X mX2_ringOf d kc ks 2 [some (.int (nI x)), some (.int (nI p)), some (.int (nI 0)), none, none] [] w _
  refine J_iload_n (pc := 2) dX2_ringOf_2 rfl rfl ?_
  refine J_istore_n (pc := 3) dX2_ringOf_3 rfl (by decide) rfl ?_
  show J X mX2_ringOf d kc ks 4 [some (.int (nI x)), some (.int (nI p)), some (.int (nI 0)), some (.int (nI p)), none] [] w _
  refine J_iconst (pc := 4) (v := nI 0) dX2_ringOf_4 (by decide) ?_
  refine J_istore (pc := 5) dX2_ringOf_5 (by decide) rfl ?_
  show J X mX2_ringOf d kc ks 7 [some (.int (nI x)), some (.int (nI p)), some (.int (nI 0)), some (.int (nI p)), some (.int (nI 0))] [] w _
  have lp7_1 : ∀ (fuel : Nat) (y2 : Nat) (y3 : Nat) (c4 : Nat), (rgL x (7 - c4) y2 y3 = rg x p) → (y2 < 2 ^ 7) → (y3 < 7) → (c4 ≤ 7) → (7 - c4 < fuel) → J X mX2_ringOf d kc ks 7 [some (.int (nI x)), some (.int (nI p)), some (.int (nI y2)), some (.int (nI y3)), some (.int (nI c4))] [] w (pI (fun v => v = nI (rg x p)) (fun w' => w' = w)) := by
    intro fuellp7_1
    induction fuellp7_1 with
    | zero => intros; omega
    | succ fuellp7_1 ihlp7_1 =>
      intro y2 y3 c4 hv7_0 hv7_1 hv7_2 hv7_3 hf2
      refine J_iload (pc := 7) dX2_ringOf_7 rfl ?_
      refine J_bipush (pc := 9) (v := nI 7) dX2_ringOf_9 (by decide) ?_
      refine J_icmp_geN (pc := 11) (tgt := 40) dX2_ringOf_11 (by decide) (by omega) (by omega) (fun ht3 => ?_) (fun hf4 => ?_)
      · refine J_iload_n (pc := 40) dX2_ringOf_40 rfl rfl ?_
        exact J_iret (pc := 41) dX2_ringOf_41 rfl ⟨(congrArg nI (by rw [← hv7_0]; first | exact rgL_7 (by omega) | exact rgL_t (by assumption))), rfl⟩
      · refine J_iload_n (pc := 14) dX2_ringOf_14 rfl rfl ?_
        refine J_iload_n (pc := 15) dX2_ringOf_15 rfl rfl ?_
        refine J_callSN0 (pc := 16) (M := mX2_ringOf) (as := [.int (nI y2), .int (nI y3)]) dX2_ringOf_16 fw_X6_has fl_X2_36 fs_X6_has rfl (c_X6_has_atx hs (d := d - 1) (Nat.le_trans (by decide) hdm) (w := w) y2 y3 (by omega) (by omega) (kc := 0) (ks := 0)) hdp (st := []) (Nat.le_of_ble_eq_true rfl) rfl (kr_P fun v5 hv5 => ?_) kx_I
        rcases hv5 with ⟨rfl, hk5_0⟩ | ⟨rfl, hk5_0⟩
        · refine J_if_neN (pc := 19) (tgt := 40) dX2_ringOf_19 (by decide) (by decide) (fun h => absurd h (by decide)) (fun _ => ?_)
          refine J_iload_n (pc := 22) dX2_ringOf_22 rfl rfl ?_
          refine J_iconst (pc := 23) (v := nI 1) dX2_ringOf_23 (by decide) ?_
          refine J_iload_n (pc := 24) dX2_ringOf_24 rfl rfl ?_
          refine J_shlOne (pc := 25) dX2_ringOf_25 (by omega) ?_
          refine J_iorN (pc := 26) dX2_ringOf_26 (by omega) (by exact Nat.lt_of_lt_of_le (Nat.pow_lt_pow_right (by decide) (show y3 < 7 by omega)) (by decide)) ?_
          refine J_istore_n (pc := 27) dX2_ringOf_27 rfl (by decide) rfl ?_
          show J X mX2_ringOf d kc ks 28 [some (.int (nI x)), some (.int (nI p)), some (.int (nI (y2 ||| (2 ^ y3)))), some (.int (nI y3)), some (.int (nI c4))] [] w _
          refine J_iload_n (pc := 28) dX2_ringOf_28 rfl rfl ?_
          refine J_iload_n (pc := 29) dX2_ringOf_29 rfl rfl ?_
          refine J_callS0 (pc := 30) (M := mX2_ringOf) (as := [.int (nI x), .int (nI y3)]) dX2_ringOf_30 fw_X2_goal fl_X2_16 fs_X2_goal rfl (c_X2_goal_atx hs (d := d - 1) (Nat.le_trans (by decide) hdm) (w := w) x y3 (by first | assumption | omega) (by omega) (kc := 0) (ks := 0)) hdp (st := []) (Nat.le_of_ble_eq_true rfl) rfl (kr_P fun v6 hv6 => ?_) kx_I
          subst hv6
          have hq7 := d8_lt x y3
          refine J_istore_n (pc := 33) dX2_ringOf_33 rfl (by decide) rfl ?_
          show J X mX2_ringOf d kc ks 34 [some (.int (nI x)), some (.int (nI p)), some (.int (nI (y2 ||| (2 ^ y3)))), some (.int (nI (d8 x y3))), some (.int (nI c4))] [] w _
          refine J_iincN (pc := 34) (b := 1) dX2_ringOf_34 rfl (by decide) (by decide) rfl ?_
          show J X mX2_ringOf d kc ks 37 [some (.int (nI x)), some (.int (nI p)), some (.int (nI (y2 ||| (2 ^ y3)))), some (.int (nI (d8 x y3))), some (.int (nI (c4 + 1)))] [] w _
          refine J_goto (pc := 37) (tgt := 7) dX2_ringOf_37 (by decide) ?_
          exact J_sub (L' := [some (.int (nI x)), some (.int (nI p)), some (.int (nI (y2 ||| (2 ^ y3)))), some (.int (nI (d8 x y3))), some (.int (nI (c4 + 1)))]) ⟨rfl, ⟨rfl, ⟨rfl, ⟨rfl, ⟨rfl, trivial⟩⟩⟩⟩⟩ (ihlp7_1 (y2 ||| (2 ^ y3)) (d8 x y3) (c4 + 1) (by exact (rgL_s (by omega) (by assumption)).symm.trans hv7_0) (by exact Nat.or_lt_two_pow hv7_1 (Nat.pow_lt_pow_right (by decide) (by omega))) (by exact hy1.1 y3 hv7_2) (by first | assumption | omega) (by omega))
        · refine J_if_neN (pc := 19) (tgt := 40) dX2_ringOf_19 (by decide) (by decide) (fun _ => ?_) (fun h => absurd h (by decide))
          refine J_iload_n (pc := 40) dX2_ringOf_40 rfl rfl ?_
          exact J_iret (pc := 41) dX2_ringOf_41 rfl ⟨(congrArg nI (by rw [← hv7_0]; first | exact rgL_7 (by omega) | exact rgL_t (by assumption))), rfl⟩
  exact J_sub (L' := [some (.int (nI x)), some (.int (nI p)), some (.int (nI 0)), some (.int (nI p)), some (.int (nI 0))]) ⟨rfl, ⟨rfl, ⟨rfl, ⟨rfl, ⟨rfl, trivial⟩⟩⟩⟩⟩ (lp7_1 _ 0 p 0 (by rfl) (by decide) (by exact hy2) (by first | assumption | omega) (Nat.lt_succ_self _))
set_option maxRecDepth 100000 in
set_option maxHeartbeats 4000000 in
theorem c_X2_ringLength_atx {X : jX} (hs : X.1.stackTraces = false) {d : Nat} (hd : 2 ≤ d) {w : List jC} (x : Nat) (p : Nat) (hy0 : x < 2 ^ (3 * 7)) (hy1 : Pn 7 (d8 x)) (hy2 : p < 7) {kc ks : Nat} : jMet X mX2_ringLength d kc ks [.int (nI x), .int (nI p)] w (pI (fun v => v = nI (ln x p)) (fun w' => w' = w)) := by
  refine jMet_of hs (by decide +kernel) (Nat.le_of_ble_eq_true rfl) (L := [some (.int (nI x)), some (.int (nI p))]) rfl ?_
  have hdm : 1 ≤ d - 1 := by omega
  have hdp : d - 1 + 1 ≤ d := by omega
  refine J_iload_n (pc := 0) dX2_ringLength_0 rfl rfl ?_
  refine J_iload_n (pc := 1) dX2_ringLength_1 rfl rfl ?_
  refine J_callS0 (pc := 2) (M := mX2_ringLength) (as := [.int (nI x), .int (nI p)]) dX2_ringLength_2 fw_X2_ringOf fl_X2_40 fs_X2_ringOf rfl (c_X2_ringOf_atx hs (d := d - 1) (Nat.le_trans (by decide) hdm) (w := w) x p (by first | assumption | omega) (by first | assumption | omega) (by first | assumption | omega) (kc := 0) (ks := 0)) hdp (st := []) (Nat.le_of_ble_eq_true rfl) rfl (kr_P fun v1 hv1 => ?_) kx_I
  subst hv1
  refine J_callS0 (pc := 5) (M := mX2_ringLength) (as := [.int (nI (rg x p))]) dX2_ringLength_5 fw_J6_bitCount_0f7a4 fl_X2_43 fs_J6_bitCount_0f7a4 rfl (c_J6_bitCount_0f7a4_atx hs (d := d - 1) (Nat.le_trans (by decide) hdm) (w := w) (nI (rg x p)) (kc := 0) (ks := 0)) hdp (st := []) (Nat.le_of_ble_eq_true rfl) rfl (kr_P fun v2 hv2 => ?_) kx_I
  subst hv2
  exact J_iret (pc := 8) dX2_ringLength_8 rfl ⟨(congrArg nI (by rfl)), rfl⟩
set_option maxRecDepth 100000 in
set_option maxHeartbeats 4000000 in
theorem c_X2_ringsOfLength_atx {X : jX} (hs : X.1.stackTraces = false) {d : Nat} (hd : 2 ≤ d) {w : List jC} (x : Nat) (L : Nat) (k : Nat) (hy0 : x < 2 ^ (3 * 7)) (hy1 : Pn 7 (d8 x)) (hy2 : L ≤ 7) (hy3 : k ≤ 7) {kc ks : Nat} : jMet X mX2_ringsOfLength d kc ks [.int (nI x), .int (nI L), .int (nI k)] w (pI (fun v => v = nI (rl x L k)) (fun w' => w' = w)) := by
  refine jMet_of hs (by decide +kernel) (Nat.le_of_ble_eq_true rfl) (L := [some (.int (nI x)), some (.int (nI L)), some (.int (nI k)), none, none, none]) rfl ?_
  have hdm : 1 ≤ d - 1 := by omega
  have hdp : d - 1 + 1 ≤ d := by omega
  refine J_iconst (pc := 0) (v := nI 0) dX2_ringsOfLength_0 (by decide) ?_
  refine J_istore_n (pc := 1) dX2_ringsOfLength_1 rfl (by decide) rfl ?_
  show J X mX2_ringsOfLength d kc ks 2 [some (.int (nI x)), some (.int (nI L)), some (.int (nI k)), some (.int (nI 0)), none, none] [] w _
  refine J_iconst (pc := 2) (v := nI 0) dX2_ringsOfLength_2 (by decide) ?_
  refine J_istore (pc := 3) dX2_ringsOfLength_3 (by decide) rfl ?_
  show J X mX2_ringsOfLength d kc ks 5 [some (.int (nI x)), some (.int (nI L)), some (.int (nI k)), some (.int (nI 0)), some (.int (nI 0)), none] [] w _
  have lp5_1 : ∀ (fuel : Nat) (c4 : Nat), (c4 ≤ k) → (k - c4 < fuel) → J X mX2_ringsOfLength d kc ks 5 [some (.int (nI x)), some (.int (nI L)), some (.int (nI k)), some (.int (nI (rl x L c4))), some (.int (nI c4)), none] [] w (pI (fun v => v = nI (rl x L k)) (fun w' => w' = w)) := by
    intro fuellp5_1
    induction fuellp5_1 with
    | zero => intros; omega
    | succ fuellp5_1 ihlp5_1 =>
      intro c4 hv5_0 hf2
      refine J_iload (pc := 5) dX2_ringsOfLength_5 rfl ?_
      refine J_iload_n (pc := 7) dX2_ringsOfLength_7 rfl rfl ?_
      refine J_icmp_geN (pc := 8) (tgt := 47) dX2_ringsOfLength_8 (by decide) (by omega) (by omega) (fun ht3 => ?_) (fun hf4 => ?_)
      · refine J_iload_n (pc := 47) dX2_ringsOfLength_47 rfl rfl ?_
        exact J_iret (pc := 48) dX2_ringsOfLength_48 rfl ⟨(congrArg nI (by rw [show c4 = k by omega])), rfl⟩
      · refine J_iload_n (pc := 11) dX2_ringsOfLength_11 rfl rfl ?_
        refine J_iload (pc := 12) dX2_ringsOfLength_12 rfl ?_
        refine J_callS0 (pc := 14) (M := mX2_ringsOfLength) (as := [.int (nI x), .int (nI c4)]) dX2_ringsOfLength_14 fw_X2_ringOf fl_X2_40 fs_X2_ringOf rfl (c_X2_ringOf_atx hs (d := d - 1) (Nat.le_trans (by decide) hdm) (w := w) x c4 (by first | assumption | omega) (by first | assumption | omega) (by omega) (kc := 0) (ks := 0)) hdp (st := []) (Nat.le_of_ble_eq_true rfl) rfl (kr_P fun v5 hv5 => ?_) kx_I
        subst hv5
        refine J_istore (pc := 17) dX2_ringsOfLength_17 (by decide) rfl ?_
        show J X mX2_ringsOfLength d kc ks 19 [some (.int (nI x)), some (.int (nI L)), some (.int (nI k)), some (.int (nI (rl x L c4))), some (.int (nI c4)), some (.int (nI (rg x c4)))] [] w _
        refine J_iload (pc := 19) dX2_ringsOfLength_19 rfl ?_
        refine J_iload (pc := 21) dX2_ringsOfLength_21 rfl ?_
        refine J_callSN0 (pc := 23) (M := mX2_ringsOfLength) (as := [.int (nI (rg x c4)), .int (nI c4)]) dX2_ringsOfLength_23 fw_X6_howManyBelow fl_X2_19 fs_X6_howManyBelow rfl (c_X6_howManyBelow_atx hs (d := d - 1) (Nat.le_trans (by decide) hdm) (w := w) (rg x c4) c4 (by exact rg31 hy1 (by omega)) (by omega) (kc := 0) (ks := 0)) hdp (st := []) (Nat.le_of_ble_eq_true rfl) rfl (kr_P fun v6 hv6 => ?_) kx_I
        subst hv6
        have hcl := cnt_le (fun i => (rg x c4).testBit i) c4
        refine J_if_neN (pc := 26) (tgt := 41) dX2_ringsOfLength_26 (by decide) (by omega) (fun ht7 => ?_) (fun hf8 => ?_)
        · refine J_iincN (pc := 41) (b := 1) dX2_ringsOfLength_41 rfl (by decide) (by decide) rfl ?_
          show J X mX2_ringsOfLength d kc ks 44 [some (.int (nI x)), some (.int (nI L)), some (.int (nI k)), some (.int (nI (rl x L c4))), some (.int (nI (c4 + 1))), some (.int (nI (rg x c4)))] [] w _
          refine J_goto (pc := 44) (tgt := 5) dX2_ringsOfLength_44 (by decide) ?_
          exact J_sub (L' := [some (.int (nI x)), some (.int (nI L)), some (.int (nI k)), some (.int (nI (rl x L (c4 + 1)))), some (.int (nI (c4 + 1))), none]) ⟨rfl, ⟨rfl, ⟨rfl, ⟨(congrArg (fun z => some (Value.int (nI z))) (show rl x L c4 = rl x L (c4 + 1) by first | exact rl_s1 (by assumption) (by assumption) | exact rl_s0a (by assumption) | exact rl_s0b (by assumption))), ⟨rfl, trivial⟩⟩⟩⟩⟩ (ihlp5_1 (c4 + 1) (by first | assumption | omega) (by omega))
        · refine J_iload (pc := 29) dX2_ringsOfLength_29 rfl ?_
          refine J_callS0 (pc := 31) (M := mX2_ringsOfLength) (as := [.int (nI (rg x c4))]) dX2_ringsOfLength_31 fw_J6_bitCount_0f7a4 fl_X2_43 fs_J6_bitCount_0f7a4 rfl (c_J6_bitCount_0f7a4_atx hs (d := d - 1) (Nat.le_trans (by decide) hdm) (w := w) (nI (rg x c4)) (kc := 0) (ks := 0)) hdp (st := []) (Nat.le_of_ble_eq_true rfl) rfl (kr_P fun v9 hv9 => ?_) kx_I
          subst hv9
          have hpl : pc32 (nI (rg x c4)) ≤ 32 := ln_le x c4
          refine J_iload_n (pc := 34) dX2_ringsOfLength_34 rfl rfl ?_
          refine J_icmp_neN (pc := 35) (tgt := 41) dX2_ringsOfLength_35 (by decide) (by omega) (by omega) (fun ht10 => ?_) (fun hf11 => ?_)
          · refine J_iincN (pc := 41) (b := 1) dX2_ringsOfLength_41 rfl (by decide) (by decide) rfl ?_
            show J X mX2_ringsOfLength d kc ks 44 [some (.int (nI x)), some (.int (nI L)), some (.int (nI k)), some (.int (nI (rl x L c4))), some (.int (nI (c4 + 1))), some (.int (nI (rg x c4)))] [] w _
            refine J_goto (pc := 44) (tgt := 5) dX2_ringsOfLength_44 (by decide) ?_
            exact J_sub (L' := [some (.int (nI x)), some (.int (nI L)), some (.int (nI k)), some (.int (nI (rl x L (c4 + 1)))), some (.int (nI (c4 + 1))), none]) ⟨rfl, ⟨rfl, ⟨rfl, ⟨(congrArg (fun z => some (Value.int (nI z))) (show rl x L c4 = rl x L (c4 + 1) by first | exact rl_s1 (by assumption) (by assumption) | exact rl_s0a (by assumption) | exact rl_s0b (by assumption))), ⟨rfl, trivial⟩⟩⟩⟩⟩ (ihlp5_1 (c4 + 1) (by first | assumption | omega) (by omega))
          · refine J_iincN (pc := 38) (b := 1) dX2_ringsOfLength_38 rfl (by decide) (by decide) rfl ?_
            show J X mX2_ringsOfLength d kc ks 41 [some (.int (nI x)), some (.int (nI L)), some (.int (nI k)), some (.int (nI (rl x L c4 + 1))), some (.int (nI c4)), some (.int (nI (rg x c4)))] [] w _
            refine J_iincN (pc := 41) (b := 1) dX2_ringsOfLength_41 rfl (by decide) (by decide) rfl ?_
            show J X mX2_ringsOfLength d kc ks 44 [some (.int (nI x)), some (.int (nI L)), some (.int (nI k)), some (.int (nI (rl x L c4 + 1))), some (.int (nI (c4 + 1))), some (.int (nI (rg x c4)))] [] w _
            refine J_goto (pc := 44) (tgt := 5) dX2_ringsOfLength_44 (by decide) ?_
            exact J_sub (L' := [some (.int (nI x)), some (.int (nI L)), some (.int (nI k)), some (.int (nI (rl x L (c4 + 1)))), some (.int (nI (c4 + 1))), none]) ⟨rfl, ⟨rfl, ⟨rfl, ⟨(congrArg (fun z => some (Value.int (nI z))) (show rl x L c4 + 1 = rl x L (c4 + 1) by first | exact rl_s1 (by assumption) (by assumption) | exact rl_s0a (by assumption) | exact rl_s0b (by assumption))), ⟨rfl, trivial⟩⟩⟩⟩⟩ (ihlp5_1 (c4 + 1) (by first | assumption | omega) (by omega))
  exact J_sub (L' := [some (.int (nI x)), some (.int (nI L)), some (.int (nI k)), some (.int (nI (rl x L 0))), some (.int (nI 0)), none]) ⟨rfl, ⟨rfl, ⟨rfl, ⟨(congrArg (fun z => some (Value.int (nI z))) (show 0 = rl x L 0 by rfl)), ⟨rfl, trivial⟩⟩⟩⟩⟩ (lp5_1 _ 0 (by first | assumption | omega) (Nat.lt_succ_self _))
set_option maxRecDepth 100000 in
set_option maxHeartbeats 4000000 in
theorem c_X2_haveLikeRings_atx {X : jX} (hs : X.1.stackTraces = false) {d : Nat} (hd : 3 ≤ d) {w : List jC} (x : Nat) (y : Nat) (hy0 : x < 2 ^ (3 * 7)) (hy1 : y < 2 ^ (3 * 7)) (hy2 : Pn 7 (d8 x)) (hy3 : Pn 7 (d8 y)) {kc ks : Nat} : jMet X mX2_haveLikeRings d kc ks [.int (nI x), .int (nI y)] w (pI (fun v => (v = nI 0 ∧ ¬ LK x y) ∨ (v = nI 1 ∧ LK x y)) (fun w' => w' = w)) := by
  refine jMet_of hs (by decide +kernel) (Nat.le_of_ble_eq_true rfl) (L := [some (.int (nI x)), some (.int (nI y)), none]) rfl ?_
  have hdm : 2 ≤ d - 1 := by omega
  have hdp : d - 1 + 1 ≤ d := by omega
  refine J_iconst (pc := 0) (v := nI 1) dX2_haveLikeRings_0 (by decide) ?_
  refine J_istore_n (pc := 1) dX2_haveLikeRings_1 rfl (by decide) rfl ?_
  show J X mX2_haveLikeRings d kc ks 2 [some (.int (nI x)), some (.int (nI y)), some (.int (nI 1))] [] w _
  have lp2_1 : ∀ (fuel : Nat) (c2 : Nat), (1 ≤ c2) → (∀ L, 1 ≤ L → L < c2 → rl x L 7 = rl y L 7) → (c2 ≤ 8) → (8 - c2 < fuel) → J X mX2_haveLikeRings d kc ks 2 [some (.int (nI x)), some (.int (nI y)), some (.int (nI c2))] [] w (pI (fun v => (v = nI 0 ∧ ¬ LK x y) ∨ (v = nI 1 ∧ LK x y)) (fun w' => w' = w)) := by
    intro fuellp2_1
    induction fuellp2_1 with
    | zero => intros; omega
    | succ fuellp2_1 ihlp2_1 =>
      intro c2 hv2_0 hv2_1 hv2_2 hf2
      refine J_iload_n (pc := 2) dX2_haveLikeRings_2 rfl rfl ?_
      refine J_bipush (pc := 3) (v := nI 7) dX2_haveLikeRings_3 (by decide) ?_
      refine J_icmp_gtN (pc := 5) (tgt := 33) dX2_haveLikeRings_5 (by decide) (by omega) (by omega) (fun ht3 => ?_) (fun hf4 => ?_)
      · refine J_iconst (pc := 33) (v := nI 1) dX2_haveLikeRings_33 (by decide) ?_
        exact J_zret (pc := 34) dX2_haveLikeRings_34 rfl (nar_b (by first | decide | omega)) ⟨Or.inr (⟨rfl, (by exact fun L h1 h2 => hv2_1 L h1 (by omega))⟩), rfl⟩
      · refine J_iload_n (pc := 8) dX2_haveLikeRings_8 rfl rfl ?_
        refine J_iload_n (pc := 9) dX2_haveLikeRings_9 rfl rfl ?_
        refine J_bipush (pc := 10) (v := nI 7) dX2_haveLikeRings_10 (by decide) ?_
        refine J_callS0 (pc := 12) (M := mX2_haveLikeRings) (as := [.int (nI x), .int (nI c2), .int (nI 7)]) dX2_haveLikeRings_12 fw_X2_ringsOfLength fl_X2_51 fs_X2_ringsOfLength rfl (c_X2_ringsOfLength_atx hs (d := d - 1) (Nat.le_trans (by decide) hdm) (w := w) x c2 7 (by exact hy0) (by exact hy2) (by omega) (by first | assumption | omega) (kc := 0) (ks := 0)) hdp (st := []) (Nat.le_of_ble_eq_true rfl) rfl (kr_P fun v5 hv5 => ?_) kx_I
        subst hv5
        have hr1 := rl_le x c2 7
        refine J_iload_n (pc := 15) dX2_haveLikeRings_15 rfl rfl ?_
        refine J_iload_n (pc := 16) dX2_haveLikeRings_16 rfl rfl ?_
        refine J_bipush (pc := 17) (v := nI 7) dX2_haveLikeRings_17 (by decide) ?_
        refine J_callS0 (pc := 19) (M := mX2_haveLikeRings) (as := [.int (nI y), .int (nI c2), .int (nI 7)]) dX2_haveLikeRings_19 fw_X2_ringsOfLength fl_X2_51 fs_X2_ringsOfLength rfl (c_X2_ringsOfLength_atx hs (d := d - 1) (Nat.le_trans (by decide) hdm) (w := w) y c2 7 (by exact hy1) (by exact hy3) (by omega) (by first | assumption | omega) (kc := 0) (ks := 0)) hdp (st := [.int (nI (rl x c2 7))]) (Nat.le_of_ble_eq_true rfl) rfl (kr_P fun v6 hv6 => ?_) kx_I
        subst hv6
        have hr2 := rl_le y c2 7
        refine J_icmp_eqN (pc := 22) (tgt := 27) dX2_haveLikeRings_22 (by decide) (by omega) (by omega) (fun ht7 => ?_) (fun hf8 => ?_)
        · refine J_iincN (pc := 27) (b := 1) dX2_haveLikeRings_27 rfl (by decide) (by decide) rfl ?_
          show J X mX2_haveLikeRings d kc ks 30 [some (.int (nI x)), some (.int (nI y)), some (.int (nI (c2 + 1)))] [] w _
          refine J_goto (pc := 30) (tgt := 2) dX2_haveLikeRings_30 (by decide) ?_
          exact J_sub (L' := [some (.int (nI x)), some (.int (nI y)), some (.int (nI (c2 + 1)))]) ⟨rfl, ⟨rfl, ⟨rfl, trivial⟩⟩⟩ (ihlp2_1 (c2 + 1) (by first | assumption | omega) (by intro L h1 h2; by_cases e : L = c2; (rw [e]; assumption); (exact hv2_1 L h1 (by omega))) (by first | assumption | omega) (by omega))
        · refine J_iconst (pc := 25) (v := nI 0) dX2_haveLikeRings_25 (by decide) ?_
          exact J_zret (pc := 26) dX2_haveLikeRings_26 rfl (nar_b (by first | decide | omega)) ⟨Or.inl ⟨rfl, (by exact fun h => absurd (h c2 (by omega) (by omega)) (by assumption))⟩, rfl⟩
  exact J_sub (L' := [some (.int (nI x)), some (.int (nI y)), some (.int (nI 1))]) ⟨rfl, ⟨rfl, ⟨rfl, trivial⟩⟩⟩ (lp2_1 _ 1 (by first | assumption | omega) (by intro L h1 h2; omega) (by first | assumption | omega) (Nat.lt_succ_self _))
set_option maxRecDepth 100000 in
set_option maxHeartbeats 4000000 in
theorem c_X2_firstFree_atx {X : jX} (hs : X.1.stackTraces = false) {d : Nat} (hd : 3 ≤ d) {w : List jC} (y : Nat) (us : Nat) (L : Nat) (k : Nat) (hy0 : y < 2 ^ (3 * 7)) (hy1 : Pn 7 (d8 y)) (hy2 : us < 2 ^ 31) (hy3 : L ≤ 7) (hy4 : k ≤ 7) (hy5 : ∃ q, q < k ∧ us.testBit q = false ∧ ln y q = L) {kc ks : Nat} : jMet X mX2_firstFree d kc ks [.int (nI y), .int (nI us), .int (nI L), .int (nI k)] w (pI (fun v => ∃ q : Nat, v = nI q ∧ q < k ∧ us.testBit q = false ∧ ln y q = L ∧ ∀ j, j < q → ¬ (us.testBit j = false ∧ ln y j = L)) (fun w' => w' = w)) := by
  refine jMet_of hs (by decide +kernel) (Nat.le_of_ble_eq_true rfl) (L := [some (.int (nI y)), some (.int (nI us)), some (.int (nI L)), some (.int (nI k)), none]) rfl ?_
  have hdm : 2 ≤ d - 1 := by omega
  have hdp : d - 1 + 1 ≤ d := by omega
  refine J_iconst (pc := 0) (v := nI 0) dX2_firstFree_0 (by decide) ?_
  refine J_istore (pc := 1) dX2_firstFree_1 (by decide) rfl ?_
  show J X mX2_firstFree d kc ks 3 [some (.int (nI y)), some (.int (nI us)), some (.int (nI L)), some (.int (nI k)), some (.int (nI 0))] [] w _
  have lp3_1 : ∀ (fuel : Nat) (c4 : Nat), (c4 ≤ k) → (∀ j, j < c4 → ¬ (us.testBit j = false ∧ ln y j = L)) → (k - c4 < fuel) → J X mX2_firstFree d kc ks 3 [some (.int (nI y)), some (.int (nI us)), some (.int (nI L)), some (.int (nI k)), some (.int (nI c4))] [] w (pI (fun v => ∃ q : Nat, v = nI q ∧ q < k ∧ us.testBit q = false ∧ ln y q = L ∧ ∀ j, j < q → ¬ (us.testBit j = false ∧ ln y j = L)) (fun w' => w' = w)) := by
    intro fuellp3_1
    induction fuellp3_1 with
    | zero => intros; omega
    | succ fuellp3_1 ihlp3_1 =>
      intro c4 hv3_0 hv3_1 hf2
      refine J_iload (pc := 3) dX2_firstFree_3 rfl ?_
      refine J_iload_n (pc := 5) dX2_firstFree_5 rfl rfl ?_
      refine J_icmp_geN (pc := 6) (tgt := 37) dX2_firstFree_6 (by decide) (by omega) (by omega) (fun ht3 => ?_) (fun hf4 => ?_)
      · refine J_iconst (pc := 37) (v := nI 0) dX2_firstFree_37 (by decide) ?_
        exact J_iret (pc := 38) dX2_firstFree_38 rfl ⟨⟨0, rfl, by obtain ⟨q, q1, q2⟩ := hy5; exact absurd q2 (hv3_1 q (by omega))⟩, rfl⟩
      · refine J_iload_n (pc := 9) dX2_firstFree_9 rfl rfl ?_
        refine J_iload (pc := 10) dX2_firstFree_10 rfl ?_
        refine J_callSN0 (pc := 12) (M := mX2_firstFree) (as := [.int (nI us), .int (nI c4)]) dX2_firstFree_12 fw_X6_has fl_X2_36 fs_X6_has rfl (c_X6_has_atx hs (d := d - 1) (Nat.le_trans (by decide) hdm) (w := w) us c4 (by first | assumption | omega) (by omega) (kc := 0) (ks := 0)) hdp (st := []) (Nat.le_of_ble_eq_true rfl) rfl (kr_P fun v5 hv5 => ?_) kx_I
        rcases hv5 with ⟨rfl, hk5_0⟩ | ⟨rfl, hk5_0⟩
        · refine J_if_neN (pc := 15) (tgt := 31) dX2_firstFree_15 (by decide) (by decide) (fun h => absurd h (by decide)) (fun _ => ?_)
          refine J_iload_n (pc := 18) dX2_firstFree_18 rfl rfl ?_
          refine J_iload (pc := 19) dX2_firstFree_19 rfl ?_
          refine J_callS0 (pc := 21) (M := mX2_firstFree) (as := [.int (nI y), .int (nI c4)]) dX2_firstFree_21 fw_X2_ringLength fl_X2_54 fs_X2_ringLength rfl (c_X2_ringLength_atx hs (d := d - 1) (Nat.le_trans (by decide) hdm) (w := w) y c4 (by first | assumption | omega) (by first | assumption | omega) (by omega) (kc := 0) (ks := 0)) hdp (st := []) (Nat.le_of_ble_eq_true rfl) rfl (kr_P fun v6 hv6 => ?_) kx_I
          subst hv6
          have hln := ln_le y c4
          refine J_iload_n (pc := 24) dX2_firstFree_24 rfl rfl ?_
          refine J_icmp_neN (pc := 25) (tgt := 31) dX2_firstFree_25 (by decide) (by omega) (by omega) (fun ht7 => ?_) (fun hf8 => ?_)
          · refine J_iincN (pc := 31) (b := 1) dX2_firstFree_31 rfl (by decide) (by decide) rfl ?_
            show J X mX2_firstFree d kc ks 34 [some (.int (nI y)), some (.int (nI us)), some (.int (nI L)), some (.int (nI k)), some (.int (nI (c4 + 1)))] [] w _
            refine J_goto (pc := 34) (tgt := 3) dX2_firstFree_34 (by decide) ?_
            exact J_sub (L' := [some (.int (nI y)), some (.int (nI us)), some (.int (nI L)), some (.int (nI k)), some (.int (nI (c4 + 1)))]) ⟨rfl, ⟨rfl, ⟨rfl, ⟨rfl, ⟨rfl, trivial⟩⟩⟩⟩⟩ (ihlp3_1 (c4 + 1) (by first | assumption | omega) (by intro j hj; by_cases e : j = c4; (rw [e]; intro q; first | exact absurd q.2 (by assumption) | exact absurd (q.1.symm.trans (by assumption)) (by decide)); (exact hv3_1 j (by omega))) (by omega))
          · refine J_iload (pc := 28) dX2_firstFree_28 rfl ?_
            exact J_iret (pc := 30) dX2_firstFree_30 rfl ⟨⟨c4, rfl, by exact ⟨by omega, by assumption, by assumption, hv3_1⟩⟩, rfl⟩
        · refine J_if_neN (pc := 15) (tgt := 31) dX2_firstFree_15 (by decide) (by decide) (fun _ => ?_) (fun h => absurd h (by decide))
          refine J_iincN (pc := 31) (b := 1) dX2_firstFree_31 rfl (by decide) (by decide) rfl ?_
          show J X mX2_firstFree d kc ks 34 [some (.int (nI y)), some (.int (nI us)), some (.int (nI L)), some (.int (nI k)), some (.int (nI (c4 + 1)))] [] w _
          refine J_goto (pc := 34) (tgt := 3) dX2_firstFree_34 (by decide) ?_
          exact J_sub (L' := [some (.int (nI y)), some (.int (nI us)), some (.int (nI L)), some (.int (nI k)), some (.int (nI (c4 + 1)))]) ⟨rfl, ⟨rfl, ⟨rfl, ⟨rfl, ⟨rfl, trivial⟩⟩⟩⟩⟩ (ihlp3_1 (c4 + 1) (by first | assumption | omega) (by intro j hj; by_cases e : j = c4; (rw [e]; intro q; first | exact absurd q.2 (by assumption) | exact absurd (q.1.symm.trans (by assumption)) (by decide)); (exact hv3_1 j (by omega))) (by omega))
  exact J_sub (L' := [some (.int (nI y)), some (.int (nI us)), some (.int (nI L)), some (.int (nI k)), some (.int (nI 0))]) ⟨rfl, ⟨rfl, ⟨rfl, ⟨rfl, ⟨rfl, trivial⟩⟩⟩⟩⟩ (lp3_1 _ 0 (by first | assumption | omega) (by intro j hj; omega) (Nat.lt_succ_self _))
set_option maxRecDepth 100000 in
set_option maxHeartbeats 4000000 in
theorem c_X2_withRing_atx {X : jX} (hs : X.1.stackTraces = false) {d : Nat} (hd : 3 ≤ d) {w : List jC} (z : Nat) (x : Nat) (p : Nat) (y : Nat) (g : Nat) (hy0 : z < 2 ^ (3 * 7)) (hy1 : x < 2 ^ (3 * 7)) (hy2 : y < 2 ^ (3 * 7)) (hy3 : Pn 7 (d8 x)) (hy4 : Pn 7 (d8 y)) (hy5 : p < 7) (hy6 : g < 7) {kc ks : Nat} : jMet X mX2_withRing d kc ks [.int (nI z), .int (nI x), .int (nI p), .int (nI y), .int (nI g)] w (pI (fun v => v = nI (wr x y z p g (ln x p))) (fun w' => w' = w)) := by
  refine jMet_of hs (by decide +kernel) (Nat.le_of_ble_eq_true rfl) (L := [some (.int (nI z)), some (.int (nI x)), some (.int (nI p)), some (.int (nI y)), some (.int (nI g)), none, none, none, none]) rfl ?_
  have hdm : 2 ≤ d - 1 := by omega
  have hdp : d - 1 + 1 ≤ d := by omega
  refine J_iload_n (pc := 0) dX2_withRing_0 rfl rfl ?_
  refine J_istore (pc := 1) dX2_withRing_1 (by decide) rfl ?_
  show J X mX2_withRing d kc ks 3 [some (.int (nI z)), some (.int (nI x)), some (.int (nI p)), some (.int (nI y)), some (.int (nI g)), some (.int (nI z)), none, none, none] [] w _
  refine J_iload_n (pc := 3) dX2_withRing_3 rfl rfl ?_
  refine J_istore (pc := 4) dX2_withRing_4 (by decide) rfl ?_
  show J X mX2_withRing d kc ks 6 [some (.int (nI z)), some (.int (nI x)), some (.int (nI p)), some (.int (nI y)), some (.int (nI g)), some (.int (nI z)), some (.int (nI p)), none, none] [] w _
  refine J_iload (pc := 6) dX2_withRing_6 rfl ?_
  refine J_istore (pc := 8) dX2_withRing_8 (by decide) rfl ?_
  show J X mX2_withRing d kc ks 10 [some (.int (nI z)), some (.int (nI x)), some (.int (nI p)), some (.int (nI y)), some (.int (nI g)), some (.int (nI z)), some (.int (nI p)), some (.int (nI g)), none] [] w _
  refine J_iload_n (pc := 10) dX2_withRing_10 rfl rfl ?_
  refine J_iload_n (pc := 11) dX2_withRing_11 rfl rfl ?_
  refine J_callS0 (pc := 12) (M := mX2_withRing) (as := [.int (nI x), .int (nI p)]) dX2_withRing_12 fw_X2_ringLength fl_X2_54 fs_X2_ringLength rfl (c_X2_ringLength_atx hs (d := d - 1) (Nat.le_trans (by decide) hdm) (w := w) x p (by exact hy1) (by exact hy3) (by exact hy5) (kc := 0) (ks := 0)) hdp (st := []) (Nat.le_of_ble_eq_true rfl) rfl (kr_P fun v1 hv1 => ?_) kx_I
  subst hv1
  have hln := ln_le x p
  refine J_istore (pc := 15) dX2_withRing_15 (by decide) rfl ?_
  show J X mX2_withRing d kc ks 17 [some (.int (nI z)), some (.int (nI x)), some (.int (nI p)), some (.int (nI y)), some (.int (nI g)), some (.int (nI z)), some (.int (nI p)), some (.int (nI g)), some (.int (nI (ln x p)))] [] w _
  have lp17_2 : ∀ (fuel : Nat) (t : Nat), (t ≤ ln x p) → (ln x p - t < fuel) → J X mX2_withRing d kc ks 17 [some (.int (nI z)), some (.int (nI x)), some (.int (nI p)), some (.int (nI y)), some (.int (nI g)), some (.int (nI (wr x y z p g t))), some (.int (nI (it (d8 x) t p))), some (.int (nI (it (d8 y) t g))), some (.int (nI (ln x p - t)))] [] w (pI (fun v => v = nI (wr x y z p g (ln x p))) (fun w' => w' = w)) := by
    intro fuellp17_2
    induction fuellp17_2 with
    | zero => intros; omega
    | succ fuellp17_2 ihlp17_2 =>
      intro t hv17_0 hf3
      refine J_iload (pc := 17) dX2_withRing_17 rfl ?_
      refine J_if_leN (pc := 19) (tgt := 55) dX2_withRing_19 (by decide) (by omega) (fun ht4 => ?_) (fun hf5 => ?_)
      · refine J_iload (pc := 55) dX2_withRing_55 rfl ?_
        exact J_iret (pc := 57) dX2_withRing_57 rfl ⟨(congrArg nI (by rw [show t = ln x p by omega])), rfl⟩
      · refine J_iload (pc := 22) dX2_withRing_22 rfl ?_
        refine J_iload (pc := 24) dX2_withRing_24 rfl ?_
        refine J_iload (pc := 26) dX2_withRing_26 rfl ?_
        refine J_callS0 (pc := 28) (M := mX2_withRing) (as := [.int (nI (wr x y z p g t)), .int (nI (it (d8 x) t p)), .int (nI (it (d8 y) t g))]) dX2_withRing_28 fw_X2_with fl_X2_32 fs_X2_with rfl (c_X2_with_atx hs (d := d - 1) (Nat.le_trans (by decide) hdm) (w := w) (wr x y z p g t) (it (d8 x) t p) (it (d8 y) t g) (by exact wr_lt hy3 hy4 hy0 hy5 hy6 t) (by exact it_lt hy3 hy5 t) (by have := it_lt hy4 hy6 t; omega) (kc := 0) (ks := 0)) hdp (st := []) (Nat.le_of_ble_eq_true rfl) rfl (kr_P fun v6 hv6 => ?_) kx_I
        subst hv6
        refine J_istore (pc := 31) dX2_withRing_31 (by decide) rfl ?_
        show J X mX2_withRing d kc ks 33 [some (.int (nI z)), some (.int (nI x)), some (.int (nI p)), some (.int (nI y)), some (.int (nI g)), some (.int (nI (w8 (wr x y z p g t) (it (d8 x) t p) (it (d8 y) t g)))), some (.int (nI (it (d8 x) t p))), some (.int (nI (it (d8 y) t g))), some (.int (nI (ln x p - t)))] [] w _
        refine J_iload_n (pc := 33) dX2_withRing_33 rfl rfl ?_
        refine J_iload (pc := 34) dX2_withRing_34 rfl ?_
        refine J_callS0 (pc := 36) (M := mX2_withRing) (as := [.int (nI x), .int (nI (it (d8 x) t p))]) dX2_withRing_36 fw_X2_goal fl_X2_16 fs_X2_goal rfl (c_X2_goal_atx hs (d := d - 1) (Nat.le_trans (by decide) hdm) (w := w) x (it (d8 x) t p) (by exact hy1) (by have := it_lt hy3 hy5 t; omega) (kc := 0) (ks := 0)) hdp (st := []) (Nat.le_of_ble_eq_true rfl) rfl (kr_P fun v7 hv7 => ?_) kx_I
        subst hv7
        have hq8 := d8_lt x (it (d8 x) t p)
        refine J_istore (pc := 39) dX2_withRing_39 (by decide) rfl ?_
        show J X mX2_withRing d kc ks 41 [some (.int (nI z)), some (.int (nI x)), some (.int (nI p)), some (.int (nI y)), some (.int (nI g)), some (.int (nI (w8 (wr x y z p g t) (it (d8 x) t p) (it (d8 y) t g)))), some (.int (nI (d8 x (it (d8 x) t p)))), some (.int (nI (it (d8 y) t g))), some (.int (nI (ln x p - t)))] [] w _
        refine J_iload_n (pc := 41) dX2_withRing_41 rfl rfl ?_
        refine J_iload (pc := 42) dX2_withRing_42 rfl ?_
        refine J_callS0 (pc := 44) (M := mX2_withRing) (as := [.int (nI y), .int (nI (it (d8 y) t g))]) dX2_withRing_44 fw_X2_goal fl_X2_16 fs_X2_goal rfl (c_X2_goal_atx hs (d := d - 1) (Nat.le_trans (by decide) hdm) (w := w) y (it (d8 y) t g) (by exact hy2) (by have := it_lt hy4 hy6 t; omega) (kc := 0) (ks := 0)) hdp (st := []) (Nat.le_of_ble_eq_true rfl) rfl (kr_P fun v9 hv9 => ?_) kx_I
        subst hv9
        have hq10 := d8_lt y (it (d8 y) t g)
        refine J_istore (pc := 47) dX2_withRing_47 (by decide) rfl ?_
        show J X mX2_withRing d kc ks 49 [some (.int (nI z)), some (.int (nI x)), some (.int (nI p)), some (.int (nI y)), some (.int (nI g)), some (.int (nI (w8 (wr x y z p g t) (it (d8 x) t p) (it (d8 y) t g)))), some (.int (nI (d8 x (it (d8 x) t p)))), some (.int (nI (d8 y (it (d8 y) t g)))), some (.int (nI (ln x p - t)))] [] w _
        refine J_iincM (pc := 49) dX2_withRing_49 rfl (by omega) (by decide) rfl ?_
        show J X mX2_withRing d kc ks 52 [some (.int (nI z)), some (.int (nI x)), some (.int (nI p)), some (.int (nI y)), some (.int (nI g)), some (.int (nI (w8 (wr x y z p g t) (it (d8 x) t p) (it (d8 y) t g)))), some (.int (nI (d8 x (it (d8 x) t p)))), some (.int (nI (d8 y (it (d8 y) t g)))), some (.int (nI (ln x p - t - 1)))] [] w _
        refine J_goto (pc := 52) (tgt := 17) dX2_withRing_52 (by decide) ?_
        exact J_sub (L' := [some (.int (nI z)), some (.int (nI x)), some (.int (nI p)), some (.int (nI y)), some (.int (nI g)), some (.int (nI (wr x y z p g (t + 1)))), some (.int (nI (it (d8 x) (t + 1) p))), some (.int (nI (it (d8 y) (t + 1) g))), some (.int (nI (ln x p - (t + 1))))]) ⟨rfl, ⟨rfl, ⟨rfl, ⟨rfl, ⟨rfl, ⟨(congrArg (fun z => some (Value.int (nI z))) (show w8 (wr x y z p g t) (it (d8 x) t p) (it (d8 y) t g) = wr x y z p g (t + 1) by rfl)), ⟨(congrArg (fun z => some (Value.int (nI z))) (show d8 x (it (d8 x) t p) = it (d8 x) (t + 1) p by rfl)), ⟨(congrArg (fun z => some (Value.int (nI z))) (show d8 y (it (d8 y) t g) = it (d8 y) (t + 1) g by rfl)), ⟨(congrArg (fun z => some (Value.int (nI z))) (show ln x p - t - 1 = ln x p - (t + 1) by omega)), trivial⟩⟩⟩⟩⟩⟩⟩⟩⟩ (ihlp17_2 (t + 1) (by first | assumption | omega) (by omega))
  exact J_sub (L' := [some (.int (nI z)), some (.int (nI x)), some (.int (nI p)), some (.int (nI y)), some (.int (nI g)), some (.int (nI (wr x y z p g 0))), some (.int (nI (it (d8 x) 0 p))), some (.int (nI (it (d8 y) 0 g))), some (.int (nI (ln x p - 0)))]) ⟨rfl, ⟨rfl, ⟨rfl, ⟨rfl, ⟨rfl, ⟨(congrArg (fun z => some (Value.int (nI z))) (show z = wr x y z p g 0 by rfl)), ⟨(congrArg (fun z => some (Value.int (nI z))) (show p = it (d8 x) 0 p by rfl)), ⟨(congrArg (fun z => some (Value.int (nI z))) (show g = it (d8 y) 0 g by rfl)), ⟨(congrArg (fun z => some (Value.int (nI z))) (show ln x p = ln x p - 0 by omega)), trivial⟩⟩⟩⟩⟩⟩⟩⟩⟩ (lp17_2 _ 0 (by first | assumption | omega) (Nat.lt_succ_self _))
set_option maxRecDepth 100000 in
set_option maxHeartbeats 4000000 in
theorem c_X2_firstRenamer_atx {X : jX} (hs : X.1.stackTraces = false) {d : Nat} (hd : 4 ≤ d) {w : List jC} (x : Nat) (y : Nat) (k : Nat) (hy0 : k ≤ 7) (hy1 : Mv k x) (hy2 : Mv k y) (hy3 : LK x y) {kc ks : Nat} : jMet X mX2_firstRenamer d kc ks [.int (nI x), .int (nI y), .int (nI k)] w (pI (fun v => ∃ z : Nat, v = nI z ∧ LN k x y z) (fun w' => w' = w)) := by
  refine jMet_of hs (by decide +kernel) (Nat.le_of_ble_eq_true rfl) (L := [some (.int (nI x)), some (.int (nI y)), some (.int (nI k)), none, none, none, none, none, none]) rfl ?_
  have hdm : 3 ≤ d - 1 := by omega
  have hdp : d - 1 + 1 ≤ d := by omega
  refine J_ldc (pc := 0) (v := nI 1754760) dX2_firstRenamer_0 (by have := fk_X2_11; exact this) ?_
  refine J_istore_n (pc := 2) dX2_firstRenamer_2 rfl (by decide) rfl ?_
  show J X mX2_firstRenamer d kc ks 3 [some (.int (nI x)), some (.int (nI y)), some (.int (nI k)), some (.int (nI 1754760)), none, none, none, none, none] [] w _
  refine J_iconst (pc := 3) (v := nI 0) dX2_firstRenamer_3 (by decide) ?_
  refine J_istore (pc := 4) dX2_firstRenamer_4 (by decide) rfl ?_
  show J X mX2_firstRenamer d kc ks 6 [some (.int (nI x)), some (.int (nI y)), some (.int (nI k)), some (.int (nI 1754760)), some (.int (nI 0)), none, none, none, none] [] w _
  refine J_iconst (pc := 6) (v := nI 0) dX2_firstRenamer_6 (by decide) ?_
  refine J_istore (pc := 7) dX2_firstRenamer_7 (by decide) rfl ?_
  show J X mX2_firstRenamer d kc ks 9 [some (.int (nI x)), some (.int (nI y)), some (.int (nI k)), some (.int (nI 1754760)), some (.int (nI 0)), some (.int (nI 0)), none, none, none] [] w _
  refine J_iconst (pc := 9) (v := nI 0) dX2_firstRenamer_9 (by decide) ?_
  refine J_istore (pc := 10) dX2_firstRenamer_10 (by decide) rfl ?_
  show J X mX2_firstRenamer d kc ks 12 [some (.int (nI x)), some (.int (nI y)), some (.int (nI k)), some (.int (nI 1754760)), some (.int (nI 0)), some (.int (nI 0)), some (.int (nI 0)), none, none] [] w _
  have lp12_1 : ∀ (fuel : Nat) (y3 : Nat) (y4 : Nat) (y5 : Nat) (c6 : Nat), (GS k x y c6 y3 y4 y5) → (c6 ≤ k) → (k - c6 < fuel) → J X mX2_firstRenamer d kc ks 12 [some (.int (nI x)), some (.int (nI y)), some (.int (nI k)), some (.int (nI y3)), some (.int (nI y4)), some (.int (nI y5)), some (.int (nI c6)), none, none] [] w (pI (fun v => ∃ z : Nat, v = nI z ∧ LN k x y z) (fun w' => w' = w)) := by
    intro fuellp12_1
    induction fuellp12_1 with
    | zero => intros; omega
    | succ fuellp12_1 ihlp12_1 =>
      intro y3 y4 y5 c6 hv12_0 hv12_1 hf2
      refine J_iload (pc := 12) dX2_firstRenamer_12 rfl ?_
      refine J_iload_n (pc := 14) dX2_firstRenamer_14 rfl rfl ?_
      refine J_icmp_geN (pc := 15) (tgt := 86) dX2_firstRenamer_15 (by decide) (by omega) (by omega) (fun ht3 => ?_) (fun hf4 => ?_)
      · refine J_iload_n (pc := 86) dX2_firstRenamer_86 rfl rfl ?_
        exact J_iret (pc := 87) dX2_firstRenamer_87 rfl ⟨⟨y3, rfl, by exact GS_n hy0 hv12_0 (by omega)⟩, rfl⟩
      · refine J_iload (pc := 18) dX2_firstRenamer_18 rfl ?_
        refine J_iload (pc := 20) dX2_firstRenamer_20 rfl ?_
        refine J_callSN0 (pc := 22) (M := mX2_firstRenamer) (as := [.int (nI y4), .int (nI c6)]) dX2_firstRenamer_22 fw_X6_has fl_X2_36 fs_X6_has rfl (c_X6_has_atx hs (d := d - 1) (Nat.le_trans (by decide) hdm) (w := w) y4 c6 (by have := hv12_0.2.1; omega) (by omega) (kc := 0) (ks := 0)) hdp (st := []) (Nat.le_of_ble_eq_true rfl) rfl (kr_P fun v5 hv5 => ?_) kx_I
        rcases hv5 with ⟨rfl, hk5_0⟩ | ⟨rfl, hk5_0⟩
        · refine J_if_neN (pc := 25) (tgt := 80) dX2_firstRenamer_25 (by decide) (by decide) (fun h => absurd h (by decide)) (fun _ => ?_)
          refine J_iload_n (pc := 28) dX2_firstRenamer_28 rfl rfl ?_
          refine J_iload (pc := 29) dX2_firstRenamer_29 rfl ?_
          refine J_callS0 (pc := 31) (M := mX2_firstRenamer) (as := [.int (nI x), .int (nI c6)]) dX2_firstRenamer_31 fw_X2_ringLength fl_X2_54 fs_X2_ringLength rfl (c_X2_ringLength_atx hs (d := d - 1) (Nat.le_trans (by decide) hdm) (w := w) x c6 (by exact hy1.1) (by exact hy1.P7 hy0) (by omega) (kc := 0) (ks := 0)) hdp (st := []) (Nat.le_of_ble_eq_true rfl) rfl (kr_P fun v6 hv6 => ?_) kx_I
          subst hv6
          refine J_istore (pc := 34) dX2_firstRenamer_34 (by decide) rfl ?_
          show J X mX2_firstRenamer d kc ks 36 [some (.int (nI x)), some (.int (nI y)), some (.int (nI k)), some (.int (nI y3)), some (.int (nI y4)), some (.int (nI y5)), some (.int (nI c6)), some (.int (nI (ln x c6))), none] [] w _
          refine J_iload_n (pc := 36) dX2_firstRenamer_36 rfl rfl ?_
          refine J_iload (pc := 37) dX2_firstRenamer_37 rfl ?_
          refine J_iload (pc := 39) dX2_firstRenamer_39 rfl ?_
          refine J_iload_n (pc := 41) dX2_firstRenamer_41 rfl rfl ?_
          refine J_callS0 (pc := 42) (M := mX2_firstRenamer) (as := [.int (nI y), .int (nI y5), .int (nI (ln x c6)), .int (nI k)]) dX2_firstRenamer_42 fw_X2_firstFree fl_X2_57 fs_X2_firstFree rfl (c_X2_firstFree_atx hs (d := d - 1) (Nat.le_trans (by decide) hdm) (w := w) y y5 (ln x c6) k (by exact hy2.1) (by exact hy2.P7 hy0) (by have := hv12_0.2.2.1; omega) (by exact (ln_Pd (hy1.P7 hy0) (by omega)).2.1) (by exact hy0) (by exact GS_free hy0 hy1 hy2 hy3 hv12_0 (by omega) (by assumption)) (kc := 0) (ks := 0)) hdp (st := []) (Nat.le_of_ble_eq_true rfl) rfl (kr_P fun v7 hv7 => ?_) kx_I
          obtain ⟨k7, rfl, hk7⟩ := hv7
          obtain ⟨hg1, hg2, hg3, hg4⟩ := hk7
          refine J_istore (pc := 45) dX2_firstRenamer_45 (by decide) rfl ?_
          show J X mX2_firstRenamer d kc ks 47 [some (.int (nI x)), some (.int (nI y)), some (.int (nI k)), some (.int (nI y3)), some (.int (nI y4)), some (.int (nI y5)), some (.int (nI c6)), some (.int (nI (ln x c6))), some (.int (nI k7))] [] w _
          refine J_iload_n (pc := 47) dX2_firstRenamer_47 rfl rfl ?_
          refine J_iload_n (pc := 48) dX2_firstRenamer_48 rfl rfl ?_
          refine J_iload (pc := 49) dX2_firstRenamer_49 rfl ?_
          refine J_iload_n (pc := 51) dX2_firstRenamer_51 rfl rfl ?_
          refine J_iload (pc := 52) dX2_firstRenamer_52 rfl ?_
          refine J_callS0 (pc := 54) (M := mX2_firstRenamer) (as := [.int (nI y3), .int (nI x), .int (nI c6), .int (nI y), .int (nI k7)]) dX2_firstRenamer_54 fw_X2_withRing fl_X2_61 fs_X2_withRing rfl (c_X2_withRing_atx hs (d := d - 1) (Nat.le_trans (by decide) hdm) (w := w) y3 x c6 y k7 (by exact hv12_0.1) (by exact hy1.1) (by exact hy2.1) (by exact hy1.P7 hy0) (by exact hy2.P7 hy0) (by omega) (by omega) (kc := 0) (ks := 0)) hdp (st := []) (Nat.le_of_ble_eq_true rfl) rfl (kr_P fun v8 hv8 => ?_) kx_I
          subst hv8
          refine J_istore_n (pc := 57) dX2_firstRenamer_57 rfl (by decide) rfl ?_
          show J X mX2_firstRenamer d kc ks 58 [some (.int (nI x)), some (.int (nI y)), some (.int (nI k)), some (.int (nI (wr x y y3 c6 k7 (ln x c6)))), some (.int (nI y4)), some (.int (nI y5)), some (.int (nI c6)), some (.int (nI (ln x c6))), some (.int (nI k7))] [] w _
          refine J_iload (pc := 58) dX2_firstRenamer_58 rfl ?_
          refine J_iload_n (pc := 60) dX2_firstRenamer_60 rfl rfl ?_
          refine J_iload (pc := 61) dX2_firstRenamer_61 rfl ?_
          refine J_callS0 (pc := 63) (M := mX2_firstRenamer) (as := [.int (nI x), .int (nI c6)]) dX2_firstRenamer_63 fw_X2_ringOf fl_X2_40 fs_X2_ringOf rfl (c_X2_ringOf_atx hs (d := d - 1) (Nat.le_trans (by decide) hdm) (w := w) x c6 (by exact hy1.1) (by exact hy1.P7 hy0) (by omega) (kc := 0) (ks := 0)) hdp (st := [.int (nI y4)]) (Nat.le_of_ble_eq_true rfl) rfl (kr_P fun v9 hv9 => ?_) kx_I
          subst hv9
          refine J_iorN (pc := 66) dX2_firstRenamer_66 (by have := hv12_0.2.1; omega) (by exact rg31 (hy1.P7 hy0) (by omega)) ?_
          refine J_istore (pc := 67) dX2_firstRenamer_67 (by decide) rfl ?_
          show J X mX2_firstRenamer d kc ks 69 [some (.int (nI x)), some (.int (nI y)), some (.int (nI k)), some (.int (nI (wr x y y3 c6 k7 (ln x c6)))), some (.int (nI (y4 ||| (rg x c6)))), some (.int (nI y5)), some (.int (nI c6)), some (.int (nI (ln x c6))), some (.int (nI k7))] [] w _
          refine J_iload (pc := 69) dX2_firstRenamer_69 rfl ?_
          refine J_iload_n (pc := 71) dX2_firstRenamer_71 rfl rfl ?_
          refine J_iload (pc := 72) dX2_firstRenamer_72 rfl ?_
          refine J_callS0 (pc := 74) (M := mX2_firstRenamer) (as := [.int (nI y), .int (nI k7)]) dX2_firstRenamer_74 fw_X2_ringOf fl_X2_40 fs_X2_ringOf rfl (c_X2_ringOf_atx hs (d := d - 1) (Nat.le_trans (by decide) hdm) (w := w) y k7 (by exact hy2.1) (by exact hy2.P7 hy0) (by omega) (kc := 0) (ks := 0)) hdp (st := [.int (nI y5)]) (Nat.le_of_ble_eq_true rfl) rfl (kr_P fun v10 hv10 => ?_) kx_I
          subst hv10
          refine J_iorN (pc := 77) dX2_firstRenamer_77 (by have := hv12_0.2.2.1; omega) (by exact rg31 (hy2.P7 hy0) (by omega)) ?_
          refine J_istore (pc := 78) dX2_firstRenamer_78 (by decide) rfl ?_
          show J X mX2_firstRenamer d kc ks 80 [some (.int (nI x)), some (.int (nI y)), some (.int (nI k)), some (.int (nI (wr x y y3 c6 k7 (ln x c6)))), some (.int (nI (y4 ||| (rg x c6)))), some (.int (nI (y5 ||| (rg y k7)))), some (.int (nI c6)), some (.int (nI (ln x c6))), some (.int (nI k7))] [] w _
          refine J_iincN (pc := 80) (b := 1) dX2_firstRenamer_80 rfl (by decide) (by decide) rfl ?_
          show J X mX2_firstRenamer d kc ks 83 [some (.int (nI x)), some (.int (nI y)), some (.int (nI k)), some (.int (nI (wr x y y3 c6 k7 (ln x c6)))), some (.int (nI (y4 ||| (rg x c6)))), some (.int (nI (y5 ||| (rg y k7)))), some (.int (nI (c6 + 1))), some (.int (nI (ln x c6))), some (.int (nI k7))] [] w _
          refine J_goto (pc := 83) (tgt := 12) dX2_firstRenamer_83 (by decide) ?_
          exact J_sub (L' := [some (.int (nI x)), some (.int (nI y)), some (.int (nI k)), some (.int (nI (wr x y y3 c6 k7 (ln x c6)))), some (.int (nI (y4 ||| (rg x c6)))), some (.int (nI (y5 ||| (rg y k7)))), some (.int (nI (c6 + 1))), none, none]) ⟨rfl, ⟨rfl, ⟨rfl, ⟨rfl, ⟨rfl, ⟨rfl, ⟨rfl, trivial⟩⟩⟩⟩⟩⟩⟩ (ihlp12_1 (wr x y y3 c6 k7 (ln x c6)) (y4 ||| (rg x c6)) (y5 ||| (rg y k7)) (c6 + 1) (by first | exact GS_k hv12_0 (by assumption) | exact GS_s hy0 hy1 hy2 hv12_0 (by omega) (by assumption) hg1 hg2 hg3 hg4) (by first | assumption | omega) (by omega))
        · refine J_if_neN (pc := 25) (tgt := 80) dX2_firstRenamer_25 (by decide) (by decide) (fun _ => ?_) (fun h => absurd h (by decide))
          refine J_iincN (pc := 80) (b := 1) dX2_firstRenamer_80 rfl (by decide) (by decide) rfl ?_
          show J X mX2_firstRenamer d kc ks 83 [some (.int (nI x)), some (.int (nI y)), some (.int (nI k)), some (.int (nI y3)), some (.int (nI y4)), some (.int (nI y5)), some (.int (nI (c6 + 1))), none, none] [] w _
          refine J_goto (pc := 83) (tgt := 12) dX2_firstRenamer_83 (by decide) ?_
          exact J_sub (L' := [some (.int (nI x)), some (.int (nI y)), some (.int (nI k)), some (.int (nI y3)), some (.int (nI y4)), some (.int (nI y5)), some (.int (nI (c6 + 1))), none, none]) ⟨rfl, ⟨rfl, ⟨rfl, ⟨rfl, ⟨rfl, ⟨rfl, ⟨rfl, trivial⟩⟩⟩⟩⟩⟩⟩ (ihlp12_1 y3 y4 y5 (c6 + 1) (by first | exact GS_k hv12_0 (by assumption) | exact GS_s hy0 hy1 hy2 hv12_0 (by omega) (by assumption) hg1 hg2 hg3 hg4) (by first | assumption | omega) (by omega))
  exact J_sub (L' := [some (.int (nI x)), some (.int (nI y)), some (.int (nI k)), some (.int (nI 1754760)), some (.int (nI 0)), some (.int (nI 0)), some (.int (nI 0)), none, none]) ⟨rfl, ⟨rfl, ⟨rfl, ⟨rfl, ⟨rfl, ⟨rfl, ⟨rfl, trivial⟩⟩⟩⟩⟩⟩⟩ (lp12_1 _ 1754760 0 0 0 (by exact GS_0) (by first | assumption | omega) (Nat.lt_succ_self _))
set_option maxRecDepth 100000 in
set_option maxHeartbeats 4000000 in
theorem c_X6_remainder_atx {X : jX} (hs : X.1.stackTraces = false) {d : Nat} (hd : 1 ≤ d) {w : List jC} (a : Int32) (k : Nat) (hy0 : 1 ≤ k) (hy1 : k ≤ 7) {kc ks : Nat} : jMet X mX6_remainder d kc ks [.int a, .int (nI k)] w (pI (fun v => v = fmI a (nI k)) (fun w' => w' = w)) := by
  refine jMet_of hs (by decide +kernel) (Nat.le_of_ble_eq_true rfl) (L := [some (.int a), some (.int (nI k))]) rfl ?_
  have hdm : 0 ≤ d - 1 := by omega
  have hdp : d - 1 + 1 ≤ d := by omega
  refine J_iload_n (pc := 0) dX6_remainder_0 rfl rfl ?_
  refine J_iconst (pc := 1) (v := nI 1) dX6_remainder_1 (by decide) ?_
  refine J_icmp_geN (pc := 2) (tgt := 9) dX6_remainder_2 (by decide) (by omega) (by omega) (fun ht1 => ?_) (fun hf2 => ?_)
  · refine J_iload_n (pc := 9) dX6_remainder_9 rfl rfl ?_
    refine J_iload_n (pc := 10) dX6_remainder_10 rfl rfl ?_
    refine J_callS0 (pc := 11) (M := mX6_remainder) (as := [.int a, .int (nI k)]) dX6_remainder_11 fw_J9_floorMod_7cf53 fl_X6_311 fs_J9_floorMod_7cf53 rfl (c_J9_floorMod_7cf53_atx hs (d := d - 1) (Nat.le_trans (by decide) hdm) (w := w) a (nI k) (by exact nI_ne0 (by omega) (by omega)) (kc := 0) (ks := 0)) hdp (st := []) (Nat.le_of_ble_eq_true rfl) rfl (kr_P fun v3 hv3 => ?_) kx_I
    subst hv3
    exact J_iret (pc := 14) dX6_remainder_14 rfl ⟨rfl, rfl⟩
  · exact absurd hf2 (by omega)
set_option maxRecDepth 100000 in
set_option maxHeartbeats 4000000 in
theorem c_X2_howManyRings_atx {X : jX} (hs : X.1.stackTraces = false) {d : Nat} (hd : 2 ≤ d) {w : List jC} (x : Nat) (k : Nat) (hy0 : x < 2 ^ (3 * 7)) (hy1 : Pn 7 (d8 x)) (hy2 : k ≤ 7) {kc ks : Nat} : jMet X mX2_howManyRings d kc ks [.int (nI x), .int (nI k)] w (pI (fun v => v = nI (hr x k)) (fun w' => w' = w)) := by
  refine jMet_of hs (by decide +kernel) (Nat.le_of_ble_eq_true rfl) (L := [some (.int (nI x)), some (.int (nI k)), none, none, none]) rfl ?_
  have hdm : 1 ≤ d - 1 := by omega
  have hdp : d - 1 + 1 ≤ d := by omega
  refine J_iconst (pc := 0) (v := nI 0) dX2_howManyRings_0 (by decide) ?_
  refine J_istore_n (pc := 1) dX2_howManyRings_1 rfl (by decide) rfl ?_
  show J X mX2_howManyRings d kc ks 2 [some (.int (nI x)), some (.int (nI k)), some (.int (nI 0)), none, none] [] w _
  refine J_iconst (pc := 2) (v := nI 0) dX2_howManyRings_2 (by decide) ?_
  refine J_istore_n (pc := 3) dX2_howManyRings_3 rfl (by decide) rfl ?_
  show J X mX2_howManyRings d kc ks 4 [some (.int (nI x)), some (.int (nI k)), some (.int (nI 0)), some (.int (nI 0)), none] [] w _
  refine J_iconst (pc := 4) (v := nI 0) dX2_howManyRings_4 (by decide) ?_
  refine J_istore (pc := 5) dX2_howManyRings_5 (by decide) rfl ?_
  show J X mX2_howManyRings d kc ks 7 [some (.int (nI x)), some (.int (nI k)), some (.int (nI 0)), some (.int (nI 0)), some (.int (nI 0))] [] w _
  have lp7_1 : ∀ (fuel : Nat) (c4 : Nat), (c4 ≤ k) → (k - c4 < fuel) → J X mX2_howManyRings d kc ks 7 [some (.int (nI x)), some (.int (nI k)), some (.int (nI (hr x c4))), some (.int (nI (hrS x c4))), some (.int (nI c4))] [] w (pI (fun v => v = nI (hr x k)) (fun w' => w' = w)) := by
    intro fuellp7_1
    induction fuellp7_1 with
    | zero => intros; omega
    | succ fuellp7_1 ihlp7_1 =>
      intro c4 hv7_0 hf2
      refine J_iload (pc := 7) dX2_howManyRings_7 rfl ?_
      refine J_iload_n (pc := 9) dX2_howManyRings_9 rfl rfl ?_
      refine J_icmp_geN (pc := 10) (tgt := 40) dX2_howManyRings_10 (by decide) (by omega) (by omega) (fun ht3 => ?_) (fun hf4 => ?_)
      · refine J_iload_n (pc := 40) dX2_howManyRings_40 rfl rfl ?_
        exact J_iret (pc := 41) dX2_howManyRings_41 rfl ⟨(congrArg nI (by rw [show c4 = k by omega])), rfl⟩
      · refine J_iload_n (pc := 13) dX2_howManyRings_13 rfl rfl ?_
        refine J_iload (pc := 14) dX2_howManyRings_14 rfl ?_
        refine J_callSN0 (pc := 16) (M := mX2_howManyRings) (as := [.int (nI (hrS x c4)), .int (nI c4)]) dX2_howManyRings_16 fw_X6_has fl_X2_36 fs_X6_has rfl (c_X6_has_atx hs (d := d - 1) (Nat.le_trans (by decide) hdm) (w := w) (hrS x c4) c4 (by exact Nat.lt_trans (hrS_lt hy1 c4 (by omega)) (by decide)) (by omega) (kc := 0) (ks := 0)) hdp (st := []) (Nat.le_of_ble_eq_true rfl) rfl (kr_P fun v5 hv5 => ?_) kx_I
        rcases hv5 with ⟨rfl, hk5_0⟩ | ⟨rfl, hk5_0⟩
        · refine J_if_neN (pc := 19) (tgt := 34) dX2_howManyRings_19 (by decide) (by decide) (fun h => absurd h (by decide)) (fun _ => ?_)
          refine J_iload_n (pc := 22) dX2_howManyRings_22 rfl rfl ?_
          refine J_iload_n (pc := 23) dX2_howManyRings_23 rfl rfl ?_
          refine J_iload (pc := 24) dX2_howManyRings_24 rfl ?_
          refine J_callS0 (pc := 26) (M := mX2_howManyRings) (as := [.int (nI x), .int (nI c4)]) dX2_howManyRings_26 fw_X2_ringOf fl_X2_40 fs_X2_ringOf rfl (c_X2_ringOf_atx hs (d := d - 1) (Nat.le_trans (by decide) hdm) (w := w) x c4 (by first | assumption | omega) (by first | assumption | omega) (by omega) (kc := 0) (ks := 0)) hdp (st := [.int (nI (hrS x c4))]) (Nat.le_of_ble_eq_true rfl) rfl (kr_P fun v6 hv6 => ?_) kx_I
          subst hv6
          refine J_iorN (pc := 29) dX2_howManyRings_29 (by exact Nat.lt_trans (hrS_lt hy1 c4 (by omega)) (by decide)) (by exact rg31 hy1 (by omega)) ?_
          refine J_istore_n (pc := 30) dX2_howManyRings_30 rfl (by decide) rfl ?_
          show J X mX2_howManyRings d kc ks 31 [some (.int (nI x)), some (.int (nI k)), some (.int (nI (hr x c4))), some (.int (nI ((hrS x c4) ||| (rg x c4)))), some (.int (nI c4))] [] w _
          refine J_iincN (pc := 31) (b := 1) dX2_howManyRings_31 rfl (by decide) (by decide) rfl ?_
          show J X mX2_howManyRings d kc ks 34 [some (.int (nI x)), some (.int (nI k)), some (.int (nI (hr x c4 + 1))), some (.int (nI ((hrS x c4) ||| (rg x c4)))), some (.int (nI c4))] [] w _
          refine J_iincN (pc := 34) (b := 1) dX2_howManyRings_34 rfl (by decide) (by decide) rfl ?_
          show J X mX2_howManyRings d kc ks 37 [some (.int (nI x)), some (.int (nI k)), some (.int (nI (hr x c4 + 1))), some (.int (nI ((hrS x c4) ||| (rg x c4)))), some (.int (nI (c4 + 1)))] [] w _
          refine J_goto (pc := 37) (tgt := 7) dX2_howManyRings_37 (by decide) ?_
          exact J_sub (L' := [some (.int (nI x)), some (.int (nI k)), some (.int (nI (hr x (c4 + 1)))), some (.int (nI (hrS x (c4 + 1)))), some (.int (nI (c4 + 1)))]) ⟨rfl, ⟨rfl, ⟨(congrArg (fun z => some (Value.int (nI z))) (show hr x c4 + 1 = hr x (c4 + 1) by first | exact hr_t (by assumption) | exact hr_f (by assumption))), ⟨(congrArg (fun z => some (Value.int (nI z))) (show (hrS x c4) ||| (rg x c4) = hrS x (c4 + 1) by first | exact hrS_t (by assumption) | exact hrS_f (by assumption))), ⟨rfl, trivial⟩⟩⟩⟩⟩ (ihlp7_1 (c4 + 1) (by first | assumption | omega) (by omega))
        · refine J_if_neN (pc := 19) (tgt := 34) dX2_howManyRings_19 (by decide) (by decide) (fun _ => ?_) (fun h => absurd h (by decide))
          refine J_iincN (pc := 34) (b := 1) dX2_howManyRings_34 rfl (by decide) (by decide) rfl ?_
          show J X mX2_howManyRings d kc ks 37 [some (.int (nI x)), some (.int (nI k)), some (.int (nI (hr x c4))), some (.int (nI (hrS x c4))), some (.int (nI (c4 + 1)))] [] w _
          refine J_goto (pc := 37) (tgt := 7) dX2_howManyRings_37 (by decide) ?_
          exact J_sub (L' := [some (.int (nI x)), some (.int (nI k)), some (.int (nI (hr x (c4 + 1)))), some (.int (nI (hrS x (c4 + 1)))), some (.int (nI (c4 + 1)))]) ⟨rfl, ⟨rfl, ⟨(congrArg (fun z => some (Value.int (nI z))) (show hr x c4 = hr x (c4 + 1) by first | exact hr_t (by assumption) | exact hr_f (by assumption))), ⟨(congrArg (fun z => some (Value.int (nI z))) (show hrS x c4 = hrS x (c4 + 1) by first | exact hrS_t (by assumption) | exact hrS_f (by assumption))), ⟨rfl, trivial⟩⟩⟩⟩⟩ (ihlp7_1 (c4 + 1) (by first | assumption | omega) (by omega))
  exact J_sub (L' := [some (.int (nI x)), some (.int (nI k)), some (.int (nI (hr x 0))), some (.int (nI (hrS x 0))), some (.int (nI 0))]) ⟨rfl, ⟨rfl, ⟨(congrArg (fun z => some (Value.int (nI z))) (show 0 = hr x 0 by rfl)), ⟨(congrArg (fun z => some (Value.int (nI z))) (show 0 = hrS x 0 by rfl)), ⟨rfl, trivial⟩⟩⟩⟩⟩ (lp7_1 _ 0 (by first | assumption | omega) (Nat.lt_succ_self _))
set_option maxRecDepth 100000 in
set_option maxHeartbeats 4000000 in
theorem c_X2_signOf_atx {X : jX} (hs : X.1.stackTraces = false) {d : Nat} (hd : 3 ≤ d) {w : List jC} (x : Nat) (k : Nat) (hy0 : x < 2 ^ (3 * 7)) (hy1 : Pn 7 (d8 x)) (hy2 : k ≤ 7) {kc ks : Nat} : jMet X mX2_signOf d kc ks [.int (nI x), .int (nI k)] w (pI (fun v => v = sgC x k) (fun w' => w' = w)) := by
  refine jMet_of hs (by decide +kernel) (Nat.le_of_ble_eq_true rfl) (L := [some (.int (nI x)), some (.int (nI k))]) rfl ?_
  have hdm : 2 ≤ d - 1 := by omega
  have hdp : d - 1 + 1 ≤ d := by omega
  refine J_iload_n (pc := 0) dX2_signOf_0 rfl rfl ?_
  refine J_iload_n (pc := 1) dX2_signOf_1 rfl rfl ?_
  refine J_iload_n (pc := 2) dX2_signOf_2 rfl rfl ?_
  refine J_callS0 (pc := 3) (M := mX2_signOf) (as := [.int (nI x), .int (nI k)]) dX2_signOf_3 fw_X2_howManyRings fl_X2_48 fs_X2_howManyRings rfl (c_X2_howManyRings_atx hs (d := d - 1) (Nat.le_trans (by decide) hdm) (w := w) x k (by first | assumption | omega) (by first | assumption | omega) (by first | assumption | omega) (kc := 0) (ks := 0)) hdp (st := [.int (nI k)]) (Nat.le_of_ble_eq_true rfl) rfl (kr_P fun v1 hv1 => ?_) kx_I
  subst hv1
  refine J_isubN (pc := 6) dX2_signOf_6 (by exact hr_le x k) ?_
  refine J_iconst (pc := 7) (v := nI 2) dX2_signOf_7 (by decide) ?_
  refine J_iremN (pc := 8) dX2_signOf_8 (by omega) (by decide) (by decide) ?_
  refine J_if_neN (pc := 9) (tgt := 16) dX2_signOf_9 (by decide) (by omega) (fun ht2 => ?_) (fun hf3 => ?_)
  · refine J_iconst (pc := 16) (v := (-1)) dX2_signOf_16 (by decide) ?_
    exact J_iret (pc := 17) dX2_signOf_17 rfl ⟨(by first | exact (if_pos (by assumption)).symm | exact (if_neg (by assumption)).symm), rfl⟩
  · refine J_iconst (pc := 12) (v := nI 1) dX2_signOf_12 (by decide) ?_
    refine J_goto (pc := 13) (tgt := 17) dX2_signOf_13 (by decide) ?_
    exact J_iret (pc := 17) dX2_signOf_17 rfl ⟨(by first | exact (if_pos (by assumption)).symm | exact (if_neg (by assumption)).symm), rfl⟩
set_option maxRecDepth 100000 in
set_option maxHeartbeats 4000000 in
theorem c_X2_orderOf_atx {X : jX} (hs : X.1.stackTraces = false) {d : Nat} (hd : 1 ≤ d) {w : List jC} (x : Nat) (hy0 : x < 2 ^ (3 * 7)) {kc ks : Nat} : jMet X mX2_orderOf d kc ks [.int (nI x)] w (pI (fun v => ∃ k : Nat, v = nI k ∧ k = oC x ∧ 1 ≤ k ∧ k ≤ 12) (fun w' => w' = w)) := by
  refine jMet_of hs (by decide +kernel) (Nat.le_of_ble_eq_true rfl) (L := [some (.int (nI x)), none, none]) rfl ?_
  have hdm : 0 ≤ d - 1 := by omega
  have hdp : d - 1 + 1 ≤ d := by omega
  have hx31 := lt31 hy0
  refine J_iload_n (pc := 0) dX2_orderOf_0 rfl rfl ?_
  refine J_istore_n (pc := 1) dX2_orderOf_1 rfl (by decide) rfl ?_
  show J X mX2_orderOf d kc ks 2 [some (.int (nI x)), some (.int (nI x)), none] [] w _
  refine J_iconst (pc := 2) (v := nI 1) dX2_orderOf_2 (by decide) ?_
  refine J_istore_n (pc := 3) dX2_orderOf_3 rfl (by decide) rfl ?_
  show J X mX2_orderOf d kc ks 4 [some (.int (nI x)), some (.int (nI x)), some (.int (nI 1))] [] w _
  have lp4_1 : ∀ (fuel : Nat) (y1 : Nat) (c2 : Nat), (ocL x (12 - c2) y1 c2 = oC x) → (y1 < 2 ^ (3 * 7)) → (1 ≤ c2) → (c2 ≤ 12) → (12 - c2 < fuel) → J X mX2_orderOf d kc ks 4 [some (.int (nI x)), some (.int (nI y1)), some (.int (nI c2))] [] w (pI (fun v => ∃ k : Nat, v = nI k ∧ k = oC x ∧ 1 ≤ k ∧ k ≤ 12) (fun w' => w' = w)) := by
    intro fuellp4_1
    induction fuellp4_1 with
    | zero => intros; omega
    | succ fuellp4_1 ihlp4_1 =>
      intro y1 c2 hv4_0 hv4_1 hv4_2 hv4_3 hf2
      refine J_iload_n (pc := 4) dX2_orderOf_4 rfl rfl ?_
      refine J_bipush (pc := 5) (v := nI 12) dX2_orderOf_5 (by decide) ?_
      refine J_icmp_geN (pc := 7) (tgt := 28) dX2_orderOf_7 (by decide) (by omega) (by omega) (fun ht3 => ?_) (fun hf4 => ?_)
      · refine J_iload_n (pc := 28) dX2_orderOf_28 rfl rfl ?_
        exact J_iret (pc := 29) dX2_orderOf_29 rfl ⟨⟨c2, rfl, by rw [← hv4_0]; exact ⟨by first | exact oc_12 (by omega) | exact oc_e (by assumption), by omega, by omega⟩⟩, rfl⟩
      · refine J_iload_n (pc := 10) dX2_orderOf_10 rfl rfl ?_
        refine J_ldc (pc := 11) (v := nI 1754760) dX2_orderOf_11 (by have := fk_X2_11; exact this) ?_
        have hy31 := lt31 hv4_1
        refine J_icmp_eqN (pc := 13) (tgt := 28) dX2_orderOf_13 (by decide) (by omega) (by omega) (fun ht5 => ?_) (fun hf6 => ?_)
        · refine J_iload_n (pc := 28) dX2_orderOf_28 rfl rfl ?_
          exact J_iret (pc := 29) dX2_orderOf_29 rfl ⟨⟨c2, rfl, by rw [← hv4_0]; exact ⟨by first | exact oc_12 (by omega) | exact oc_e (by assumption), by omega, by omega⟩⟩, rfl⟩
        · refine J_iload_n (pc := 16) dX2_orderOf_16 rfl rfl ?_
          refine J_iload_n (pc := 17) dX2_orderOf_17 rfl rfl ?_
          refine J_callS0 (pc := 18) (M := mX2_orderOf) (as := [.int (nI y1), .int (nI x)]) dX2_orderOf_18 fw_X2_both fl_X2_12 fs_X2_both rfl (c_X2_both_atx hs (d := d - 1) (Nat.le_trans (by decide) hdm) (w := w) y1 x (by first | assumption | omega) (by first | assumption | omega) (kc := 0) (ks := 0)) hdp (st := []) (Nat.le_of_ble_eq_true rfl) rfl (kr_P fun v7 hv7 => ?_) kx_I
          subst hv7
          refine J_istore_n (pc := 21) dX2_orderOf_21 rfl (by decide) rfl ?_
          show J X mX2_orderOf d kc ks 22 [some (.int (nI x)), some (.int (nI (c7 y1 x))), some (.int (nI c2))] [] w _
          refine J_iincN (pc := 22) (b := 1) dX2_orderOf_22 rfl (by decide) (by decide) rfl ?_
          show J X mX2_orderOf d kc ks 25 [some (.int (nI x)), some (.int (nI (c7 y1 x))), some (.int (nI (c2 + 1)))] [] w _
          refine J_goto (pc := 25) (tgt := 4) dX2_orderOf_25 (by decide) ?_
          exact J_sub (L' := [some (.int (nI x)), some (.int (nI (c7 y1 x))), some (.int (nI (c2 + 1)))]) ⟨rfl, ⟨rfl, ⟨rfl, trivial⟩⟩⟩ (ihlp4_1 (c7 y1 x) (c2 + 1) (by exact (oc_s (by omega) (by assumption)).symm.trans hv4_0) (by exact c7_lt _ _) (by first | assumption | omega) (by first | assumption | omega) (by omega))
  exact J_sub (L' := [some (.int (nI x)), some (.int (nI x)), some (.int (nI 1))]) ⟨rfl, ⟨rfl, ⟨rfl, trivial⟩⟩⟩ (lp4_1 _ x 1 (by rfl) (by exact hy0) (by first | assumption | omega) (by first | assumption | omega) (Nat.lt_succ_self _))
