section
/-! contracts: spec2 X4,X3 -/
set_option maxRecDepth 100000 in
set_option maxHeartbeats 4000000 in
theorem c_X4_partWith {X : jX} (hs : X.1.stackTraces = false) {d : Nat} (hd : 0 ≤ d) {n : Nat} {e r q : Int32} (hn1 : 2 ≤ n) (hn2 : n ≤ 7) {w : List jC} (hS : SH (rX n e r q) w) (a : Int32) {kc ks : Nat} : jMet X mX4_partWith d kc ks [.ref 12, .int a] w (pI (fun _ => True) (fun w' => w' = w)) := by
  refine jMet_of hs (by decide +kernel) (Nat.le_of_ble_eq_true rfl) (L := [some (.ref 12), some (.int a)]) rfl ?_
  have hG : Fr kX w w := Fr.rf
  refine J_iload_n (pc := 0) dX4_partWith_0 rfl rfl ?_
  refine J_if_lt (pc := 1) (tgt := 12) dX4_partWith_1 (by decide) (fun ht1 => ?_) (fun hf2 => ?_)
  · refine J_iconst (pc := 12) (v := nI 0) dX4_partWith_12 (by decide) ?_
    refine J_goto (pc := 13) (tgt := 22) dX4_partWith_13 (by decide) ?_
    exact J_iret (pc := 22) dX4_partWith_22 rfl ⟨trivial, rfl⟩
  · refine J_iload_n (pc := 4) dX4_partWith_4 rfl rfl ?_
    refine J_aload_n (pc := 5) dX4_partWith_5 rfl rfl rfl ?_
    obtain ⟨_, hc3, ka3, rfl, hb3_0⟩ := hS 12 _ rfl
    refine J_get (pc := 6) (k := 1) dX4_partWith_6 kC5 (by decide) ff_X4_17 hc3 rfl ?_
    refine J_icmp_lt (pc := 9) (tgt := 16) dX4_partWith_9 (by decide) (fun ht4 => ?_) (fun hf5 => ?_)
    · refine J_aload_n (pc := 16) dX4_partWith_16 rfl rfl rfl ?_
      refine J_get (pc := 17) (k := 0) dX4_partWith_17 kC5 (by decide) ff_X4_11 hc3 rfl ?_
      refine J_iload_n (pc := 20) dX4_partWith_20 rfl rfl ?_
      obtain ⟨k6, hk6, rfl⟩ := nI_k2 ht4 (by omega) hf2
      obtain ⟨_, hc7, xs7, rfl, hl7⟩ := hS 13 _ rfl
      refine J_iald (pc := 21) dX4_partWith_21 hc7 (nI_in (by omega) (by omega)) (J_absI fun x8 => ?_)
      exact J_iret (pc := 22) dX4_partWith_22 rfl ⟨trivial, rfl⟩
    · refine J_iconst (pc := 12) (v := nI 0) dX4_partWith_12 (by decide) ?_
      refine J_goto (pc := 13) (tgt := 22) dX4_partWith_13 (by decide) ?_
      exact J_iret (pc := 22) dX4_partWith_22 rfl ⟨trivial, rfl⟩
set_option maxRecDepth 100000 in
set_option maxHeartbeats 4000000 in
theorem c_X4_parts {X : jX} (hs : X.1.stackTraces = false) {d : Nat} (hd : 2 ≤ d) {n : Nat} {e r q : Int32} (hn1 : 2 ≤ n) (hn2 : n ≤ 7) {w : List jC} (hS : SH (rX n e r q) w) {kc ks : Nat} : jMet X mX4_parts d kc ks [.ref 12] w (pI (fun _ => True) (fun w' => w' = w)) := by
  refine jMet_of hs (by decide +kernel) (Nat.le_of_ble_eq_true rfl) (L := [some (.ref 12), none, none]) rfl ?_
  have hG : Fr kX w w := Fr.rf
  refine J_iconst (pc := 0) (v := nI 0) dX4_parts_0 (by decide) ?_
  refine J_istore_n (pc := 1) dX4_parts_1 rfl (by decide) rfl ?_
  show J X mX4_parts d kc ks 2 [some (.ref 12), some (.int (nI 0)), none] [] w _
  refine J_iconst (pc := 2) (v := nI 0) dX4_parts_2 (by decide) ?_
  refine J_istore_n (pc := 3) dX4_parts_3 rfl (by decide) rfl ?_
  show J X mX4_parts d kc ks 4 [some (.ref 12), some (.int (nI 0)), some (.int (nI 0))] [] w _
  have lp4_1 : ∀ (fuel : Nat) (b1 : Nat) (c2 : Nat), c2 < 2147483648 → b1 ≤ c2 → 7 - c2 < fuel → J X mX4_parts d kc ks 4 [some (.ref 12), some (.int (nI b1)), some (.int (nI c2))] [] w (pI (fun _ => True) (fun w' => w' = w)) := by
    intro fuellp4_1
    induction fuellp4_1 with
    | zero => intros; omega
    | succ fuellp4_1 ihlp4_1 =>
      intro b1 c2 hi2 hi3 hf4
      refine J_iload_n (pc := 4) dX4_parts_4 rfl rfl ?_
      refine J_aload_n (pc := 5) dX4_parts_5 rfl rfl rfl ?_
      obtain ⟨_, hc5, ka5, rfl, hb5_0⟩ := hS 12 _ rfl
      refine J_get (pc := 6) (k := 1) dX4_parts_6 kC5 (by decide) ff_X4_17 hc5 rfl ?_
      refine J_icmp_geN (pc := 9) (tgt := 34) dX4_parts_9 (by decide) (by omega) (by omega) (fun ht6 => ?_) (fun hf7 => ?_)
      · refine J_iload_n (pc := 34) dX4_parts_34 rfl rfl ?_
        exact J_iret (pc := 35) dX4_parts_35 rfl ⟨trivial, rfl⟩
      · refine J_aload_n (pc := 12) dX4_parts_12 rfl rfl rfl ?_
        refine J_get (pc := 13) (k := 0) dX4_parts_13 kC5 (by decide) ff_X4_11 hc5 rfl ?_
        refine J_iload_n (pc := 16) dX4_parts_16 rfl rfl ?_
        obtain ⟨_, hc8, xs8, rfl, hl8⟩ := hS 13 _ rfl
        refine J_iald (pc := 17) dX4_parts_17 hc8 (nI_in (by omega) (by omega)) (J_absI fun x9 => ?_)
        refine J_iload_n (pc := 18) dX4_parts_18 rfl rfl ?_
        refine J_callSN0 (pc := 19) (M := mX4_parts) (as := [.int x9, .int (nI c2)]) dX4_parts_19 fw_X6_howManyBelow fl_X4_21 fs_X6_howManyBelow rfl (c_X6_howManyBelow hs (d := d - 1) (by omega) (w := w) x9 (nI c2) (kc := 0) (ks := 0)) (by omega) (st := []) (Nat.le_of_ble_eq_true rfl) rfl (kr_P fun v10 hv10 => ?_) kx_I
        obtain ⟨k10, rfl, hk10⟩ := hv10
        refine J_if_neN (pc := 22) (tgt := 28) dX4_parts_22 (by decide) (by omega) (fun ht11 => ?_) (fun hf12 => ?_)
        · refine J_iincN (pc := 28) (b := 1) dX4_parts_28 rfl (by decide) (by decide) rfl ?_
          show J X mX4_parts d kc ks 31 [some (.ref 12), some (.int (nI b1)), some (.int (nI (c2 + 1)))] [] w _
          refine J_goto (pc := 31) (tgt := 4) dX4_parts_31 (by decide) ?_
          exact J_sub (L' := [some (.ref 12), some (.int (nI b1)), some (.int (nI (c2 + 1)))]) ⟨rfl, ⟨rfl, ⟨rfl, trivial⟩⟩⟩ (ihlp4_1 b1 (c2 + 1) (by first | assumption | omega) (by first | assumption | omega) (by omega))
        · refine J_iincN (pc := 25) (b := 1) dX4_parts_25 rfl (by decide) (by decide) rfl ?_
          show J X mX4_parts d kc ks 28 [some (.ref 12), some (.int (nI (b1 + 1))), some (.int (nI c2))] [] w _
          refine J_iincN (pc := 28) (b := 1) dX4_parts_28 rfl (by decide) (by decide) rfl ?_
          show J X mX4_parts d kc ks 31 [some (.ref 12), some (.int (nI (b1 + 1))), some (.int (nI (c2 + 1)))] [] w _
          refine J_goto (pc := 31) (tgt := 4) dX4_parts_31 (by decide) ?_
          exact J_sub (L' := [some (.ref 12), some (.int (nI (b1 + 1))), some (.int (nI (c2 + 1)))]) ⟨rfl, ⟨rfl, ⟨rfl, trivial⟩⟩⟩ (ihlp4_1 (b1 + 1) (c2 + 1) (by first | assumption | omega) (by first | assumption | omega) (by omega))
  exact J_sub (L' := [some (.ref 12), some (.int (nI 0)), some (.int (nI 0))]) ⟨rfl, ⟨rfl, ⟨rfl, trivial⟩⟩⟩ (lp4_1 _ 0 0 (by first | assumption | omega) (by first | assumption | omega) (Nat.lt_succ_self _))
set_option maxRecDepth 100000 in
set_option maxHeartbeats 4000000 in
theorem c_X4_separate {X : jX} (hs : X.1.stackTraces = false) {d : Nat} (hd : 0 ≤ d) {n : Nat} {e r q : Int32} (hn1 : 2 ≤ n) (hn2 : n ≤ 7) {w : List jC} (hS : SH (rX n e r q) w) {kc ks : Nat} : jMet X mX4_separate d kc ks [.ref 12, .int (nI n)] w (pV (fun w' => rS n e r q w w')) := by
  refine jMet_of hs (by decide +kernel) (Nat.le_of_ble_eq_true rfl) (L := [some (.ref 12), some (.int (nI n)), none]) rfl ?_
  have hG : Fr kX w w := Fr.rf
  refine J_aload_n (pc := 0) dX4_separate_0 rfl rfl rfl ?_
  refine J_iload_n (pc := 1) dX4_separate_1 rfl rfl ?_
  obtain ⟨_, hc1, ka1, rfl, hb1_0⟩ := hS 12 _ rfl
  refine J_putS (pc := 2) (k := 1) kX dX4_separate_2 kC5 (by decide) ff_X4_17 (Or.inl rfl) ⟨rfl, rfl⟩ hS hc1 (Nat.le_of_ble_eq_true rfl) rfl ⟨n, rfl, (by omega)⟩ (by decide) (fun w2 hS2 hc2 hne2 hF2 => ?_)
  have hG2 := hG.tr hF2
  refine J_iconst (pc := 5) (v := nI 0) dX4_separate_5 (by decide) ?_
  refine J_istore_n (pc := 6) dX4_separate_6 rfl (by decide) rfl ?_
  show J X mX4_separate d kc ks 7 [some (.ref 12), some (.int (nI n)), some (.int (nI 0))] [] w2 _
  have lp7_3 : ∀ (fuel : Nat) (w4 : List jC) (c2 : Nat), SH (rX n e r q) w4 → Fr kX w w4 → c2 < 2147483648 → 8 - c2 < fuel → J X mX4_separate d kc ks 7 [some (.ref 12), some (.int (nI n)), some (.int (nI c2))] [] w4 (pV (fun w' => rS n e r q w w')) := by
    intro fuellp7_3
    induction fuellp7_3 with
    | zero => intros; omega
    | succ fuellp7_3 ihlp7_3 =>
      intro w4 c2 hS5 hG6 hi7 hf8
      refine J_iload_n (pc := 7) dX4_separate_7 rfl rfl ?_
      refine J_bipush (pc := 8) (v := nI 8) dX4_separate_8 (by decide) ?_
      refine J_icmp_geN (pc := 10) (tgt := 28) dX4_separate_10 (by decide) (by omega) (by omega) (fun ht9 => ?_) (fun hf10 => ?_)
      · exact J_vret (pc := 28) dX4_separate_28 rfl (⟨hS5, hG6⟩)
      · refine J_aload_n (pc := 13) dX4_separate_13 rfl rfl rfl ?_
        obtain ⟨_, hc11, ka11, rfl, hb11_0⟩ := hS5 12 _ rfl
        refine J_get (pc := 14) (k := 0) dX4_separate_14 kC5 (by decide) ff_X4_11 hc11 rfl ?_
        refine J_iload_n (pc := 17) dX4_separate_17 rfl rfl ?_
        refine J_iconst (pc := 18) (v := nI 1) dX4_separate_18 (by decide) ?_
        refine J_iload_n (pc := 19) dX4_separate_19 rfl rfl ?_
        refine J_ishl (pc := 20) dX4_separate_20 (J_absI fun x12 => ?_)
        obtain ⟨_, hc13, xs13, rfl, hl13⟩ := hS5 13 _ rfl
        refine J_iastS (pc := 21) kX dX4_separate_21 hS5 hc13 (nI_in (by omega) (by omega)) rfl ⟨_, rfl, by rw [List.length_set]; exact hl13⟩ (by decide) (fun w14 hS14 hc14 hne14 hF14 => ?_)
        have hG14 := hG6.tr hF14
        have hl14 : (List.set xs13 (nI c2).toNatClampNeg x12).length = 8 := by rw [List.length_set]; exact hl13
        generalize List.set xs13 (nI c2).toNatClampNeg x12 = xs14 at hc14 hl14
        have hc11_v14 := (hne14 12 (by decide)).trans hc11
        refine J_iincN (pc := 22) (b := 1) dX4_separate_22 rfl (by decide) (by decide) rfl ?_
        show J X mX4_separate d kc ks 25 [some (.ref 12), some (.int (nI n)), some (.int (nI (c2 + 1)))] [] w14 _
        refine J_goto (pc := 25) (tgt := 7) dX4_separate_25 (by decide) ?_
        exact J_sub (L' := [some (.ref 12), some (.int (nI n)), some (.int (nI (c2 + 1)))]) ⟨rfl, ⟨rfl, ⟨rfl, trivial⟩⟩⟩ (ihlp7_3 w14 (c2 + 1) hS14 hG14 (by first | assumption | omega) (by omega))
  exact J_sub (L' := [some (.ref 12), some (.int (nI n)), some (.int (nI 0))]) ⟨rfl, ⟨rfl, ⟨rfl, trivial⟩⟩⟩ (lp7_3 _ w2 0 hS2 hG2 (by first | assumption | omega) (Nat.lt_succ_self _))
set_option maxRecDepth 100000 in
set_option maxHeartbeats 4000000 in
theorem c_X4_join {X : jX} (hs : X.1.stackTraces = false) {d : Nat} (hd : 1 ≤ d) {n : Nat} {e r q : Int32} (hn1 : 2 ≤ n) (hn2 : n ≤ 7) {w : List jC} (hS : SH (rX n e r q) w) (a : Nat) (b : Nat) (hy0 : a < 8) (hy1 : b < 8) {kc ks : Nat} : jMet X mX4_join d kc ks [.ref 12, .int (nI a), .int (nI b)] w (pI (fun v => ∃ k : Nat, v = nI k ∧ k < 2) (fun w' => rS n e r q w w')) := by
  refine jMet_of hs (by decide +kernel) (Nat.le_of_ble_eq_true rfl) (L := [some (.ref 12), some (.int (nI a)), some (.int (nI b)), none, none]) rfl ?_
  have hG : Fr kX w w := Fr.rf
  refine J_aload_n (pc := 0) dX4_join_0 rfl rfl rfl ?_
  obtain ⟨_, hc1, ka1, rfl, hb1_0⟩ := hS 12 _ rfl
  refine J_get (pc := 1) (k := 0) dX4_join_1 kC5 (by decide) ff_X4_11 hc1 rfl ?_
  refine J_iload_n (pc := 4) dX4_join_4 rfl rfl ?_
  obtain ⟨_, hc2, xs2, rfl, hl2⟩ := hS 13 _ rfl
  refine J_iald (pc := 5) dX4_join_5 hc2 (nI_in (by omega) (by omega)) (J_absI fun x3 => ?_)
  refine J_iload_n (pc := 6) dX4_join_6 rfl rfl ?_
  refine J_callSN0 (pc := 7) (M := mX4_join) (as := [.int x3, .int (nI b)]) dX4_join_7 fw_X6_has fl_X4_29 fs_X6_has rfl (c_X6_has hs (d := d - 1) (by omega) (w := w) x3 (nI b) (kc := 0) (ks := 0)) (by omega) (st := []) (Nat.le_of_ble_eq_true rfl) rfl (kr_P fun v4 hv4 => ?_) kx_I
  obtain ⟨k4, rfl, hk4⟩ := hv4
  refine J_if_eqN (pc := 10) (tgt := 15) dX4_join_10 (by decide) (by omega) (fun ht5 => ?_) (fun hf6 => ?_)
  · refine J_aload_n (pc := 15) dX4_join_15 rfl rfl rfl ?_
    refine J_get (pc := 16) (k := 0) dX4_join_16 kC5 (by decide) ff_X4_11 hc1 rfl ?_
    refine J_iload_n (pc := 19) dX4_join_19 rfl rfl ?_
    refine J_iald (pc := 20) dX4_join_20 hc2 (nI_in (by omega) (by omega)) (J_absI fun x7 => ?_)
    refine J_aload_n (pc := 21) dX4_join_21 rfl rfl rfl ?_
    refine J_get (pc := 22) (k := 0) dX4_join_22 kC5 (by decide) ff_X4_11 hc1 rfl ?_
    refine J_iload_n (pc := 25) dX4_join_25 rfl rfl ?_
    refine J_iald (pc := 26) dX4_join_26 hc2 (nI_in (by omega) (by omega)) (J_absI fun x8 => ?_)
    refine J_ior (pc := 27) dX4_join_27 (J_absI fun x9 => ?_)
    refine J_istore_n (pc := 28) dX4_join_28 rfl (by decide) rfl ?_
    show J X mX4_join d kc ks 29 [some (.ref 12), some (.int (nI a)), some (.int (nI b)), some (.int x9), none] [] w _
    refine J_iconst (pc := 29) (v := nI 0) dX4_join_29 (by decide) ?_
    refine J_istore (pc := 30) dX4_join_30 (by decide) rfl ?_
    show J X mX4_join d kc ks 32 [some (.ref 12), some (.int (nI a)), some (.int (nI b)), some (.int x9), some (.int (nI 0))] [] w _
    have lp32_10 : ∀ (fuel : Nat) (w11 : List jC) (c4 : Nat), SH (rX n e r q) w11 → Fr kX w w11 → c4 < 2147483648 → 8 - c4 < fuel → J X mX4_join d kc ks 32 [some (.ref 12), some (.int (nI a)), some (.int (nI b)), some (.int x9), some (.int (nI c4))] [] w11 (pI (fun v => ∃ k : Nat, v = nI k ∧ k < 2) (fun w' => rS n e r q w w')) := by
      intro fuellp32_10
      induction fuellp32_10 with
      | zero => intros; omega
      | succ fuellp32_10 ihlp32_10 =>
        intro w11 c4 hS12 hG13 hi14 hf15
        refine J_iload (pc := 32) dX4_join_32 rfl ?_
        refine J_bipush (pc := 34) (v := nI 8) dX4_join_34 (by decide) ?_
        refine J_icmp_geN (pc := 36) (tgt := 62) dX4_join_36 (by decide) (by omega) (by omega) (fun ht16 => ?_) (fun hf17 => ?_)
        · refine J_iconst (pc := 62) (v := nI 1) dX4_join_62 (by decide) ?_
          exact J_zret (pc := 63) dX4_join_63 rfl (nar_b (by omega)) ⟨⟨1, rfl, by omega⟩, ⟨hS12, hG13⟩⟩
        · refine J_iload_n (pc := 39) dX4_join_39 rfl rfl ?_
          refine J_iload (pc := 40) dX4_join_40 rfl ?_
          refine J_callSN0 (pc := 42) (M := mX4_join) (as := [.int x9, .int (nI c4)]) dX4_join_42 fw_X6_has fl_X4_29 fs_X6_has rfl (c_X6_has hs (d := d - 1) (by omega) (w := w11) x9 (nI c4) (kc := 0) (ks := 0)) (by omega) (st := []) (Nat.le_of_ble_eq_true rfl) rfl (kr_P fun v18 hv18 => ?_) kx_I
          obtain ⟨k18, rfl, hk18⟩ := hv18
          refine J_if_eqN (pc := 45) (tgt := 56) dX4_join_45 (by decide) (by omega) (fun ht19 => ?_) (fun hf20 => ?_)
          · refine J_iincN (pc := 56) (b := 1) dX4_join_56 rfl (by decide) (by decide) rfl ?_
            show J X mX4_join d kc ks 59 [some (.ref 12), some (.int (nI a)), some (.int (nI b)), some (.int x9), some (.int (nI (c4 + 1)))] [] w11 _
            refine J_goto (pc := 59) (tgt := 32) dX4_join_59 (by decide) ?_
            exact J_sub (L' := [some (.ref 12), some (.int (nI a)), some (.int (nI b)), some (.int x9), some (.int (nI (c4 + 1)))]) ⟨rfl, ⟨rfl, ⟨rfl, ⟨rfl, ⟨rfl, trivial⟩⟩⟩⟩⟩ (ihlp32_10 w11 (c4 + 1) hS12 hG13 (by first | assumption | omega) (by omega))
          · refine J_aload_n (pc := 48) dX4_join_48 rfl rfl rfl ?_
            obtain ⟨_, hc21, ka21, rfl, hb21_0⟩ := hS12 12 _ rfl
            refine J_get (pc := 49) (k := 0) dX4_join_49 kC5 (by decide) ff_X4_11 hc21 rfl ?_
            refine J_iload (pc := 52) dX4_join_52 rfl ?_
            refine J_iload_n (pc := 54) dX4_join_54 rfl rfl ?_
            obtain ⟨_, hc22, xs22, rfl, hl22⟩ := hS12 13 _ rfl
            refine J_iastS (pc := 55) kX dX4_join_55 hS12 hc22 (nI_in (by omega) (by omega)) rfl ⟨_, rfl, by rw [List.length_set]; exact hl22⟩ (by decide) (fun w23 hS23 hc23 hne23 hF23 => ?_)
            have hG23 := hG13.tr hF23
            have hl23 : (List.set xs22 (nI c4).toNatClampNeg x9).length = 8 := by rw [List.length_set]; exact hl22
            generalize List.set xs22 (nI c4).toNatClampNeg x9 = xs23 at hc23 hl23
            have hc21_v23 := (hne23 12 (by decide)).trans hc21
            refine J_iincN (pc := 56) (b := 1) dX4_join_56 rfl (by decide) (by decide) rfl ?_
            show J X mX4_join d kc ks 59 [some (.ref 12), some (.int (nI a)), some (.int (nI b)), some (.int x9), some (.int (nI (c4 + 1)))] [] w23 _
            refine J_goto (pc := 59) (tgt := 32) dX4_join_59 (by decide) ?_
            exact J_sub (L' := [some (.ref 12), some (.int (nI a)), some (.int (nI b)), some (.int x9), some (.int (nI (c4 + 1)))]) ⟨rfl, ⟨rfl, ⟨rfl, ⟨rfl, ⟨rfl, trivial⟩⟩⟩⟩⟩ (ihlp32_10 w23 (c4 + 1) hS23 hG23 (by first | assumption | omega) (by omega))
    exact J_sub (L' := [some (.ref 12), some (.int (nI a)), some (.int (nI b)), some (.int x9), some (.int (nI 0))]) ⟨rfl, ⟨rfl, ⟨rfl, ⟨rfl, ⟨rfl, trivial⟩⟩⟩⟩⟩ (lp32_10 _ w 0 hS hG (by first | assumption | omega) (Nat.lt_succ_self _))
  · refine J_iconst (pc := 13) (v := nI 0) dX4_join_13 (by decide) ?_
    exact J_zret (pc := 14) dX4_join_14 rfl (nar_b (by omega)) ⟨⟨0, rfl, by omega⟩, ⟨hS, hG⟩⟩
set_option maxRecDepth 100000 in
set_option maxHeartbeats 4000000 in
theorem c_X4_joinMoved {X : jX} (hs : X.1.stackTraces = false) {d : Nat} (hd : 2 ≤ d) {n : Nat} {e r q : Int32} (hn1 : 2 ≤ n) (hn2 : n ≤ 7) {w : List jC} (hS : SH (rX n e r q) w) (a : Int32) {kc ks : Nat} : jMet X mX4_joinMoved d kc ks [.ref 12, .int a] w (pI (fun v => ∃ k : Nat, v = nI k ∧ k < 2) (fun w' => rS n e r q w w')) := by
  refine jMet_of hs (by decide +kernel) (Nat.le_of_ble_eq_true rfl) (L := [some (.ref 12), some (.int a), none, none, none]) rfl ?_
  have hG : Fr kX w w := Fr.rf
  refine J_iconst (pc := 0) (v := nI 0) dX4_joinMoved_0 (by decide) ?_
  refine J_istore_n (pc := 1) dX4_joinMoved_1 rfl (by decide) rfl ?_
  show J X mX4_joinMoved d kc ks 2 [some (.ref 12), some (.int a), some (.int (nI 0)), none, none] [] w _
  refine J_iconst (pc := 2) (v := nI 0) dX4_joinMoved_2 (by decide) ?_
  refine J_istore_n (pc := 3) dX4_joinMoved_3 rfl (by decide) rfl ?_
  show J X mX4_joinMoved d kc ks 4 [some (.ref 12), some (.int a), some (.int (nI 0)), some (.int (nI 0)), none] [] w _
  have lp4_1 : ∀ (fuel : Nat) (w2 : List jC) (b2 : Nat) (c3 : Nat), SH (rX n e r q) w2 → Fr kX w w2 → c3 < 2147483648 → b2 < 2 → 7 - c3 < fuel → J X mX4_joinMoved d kc ks 4 [some (.ref 12), some (.int a), some (.int (nI b2)), some (.int (nI c3)), none] [] w2 (pI (fun v => ∃ k : Nat, v = nI k ∧ k < 2) (fun w' => rS n e r q w w')) := by
    intro fuellp4_1
    induction fuellp4_1 with
    | zero => intros; omega
    | succ fuellp4_1 ihlp4_1 =>
      intro w2 b2 c3 hS3 hG4 hi5 hi6 hf7
      refine J_iload_n (pc := 4) dX4_joinMoved_4 rfl rfl ?_
      refine J_aload_n (pc := 5) dX4_joinMoved_5 rfl rfl rfl ?_
      obtain ⟨_, hc8, ka8, rfl, hb8_0⟩ := hS3 12 _ rfl
      refine J_get (pc := 6) (k := 1) dX4_joinMoved_6 kC5 (by decide) ff_X4_17 hc8 rfl ?_
      refine J_icmp_geN (pc := 9) (tgt := 67) dX4_joinMoved_9 (by decide) (by omega) (by omega) (fun ht9 => ?_) (fun hf10 => ?_)
      · refine J_iload_n (pc := 67) dX4_joinMoved_67 rfl rfl ?_
        exact J_zret (pc := 68) dX4_joinMoved_68 rfl (nar_b (by omega)) ⟨⟨b2, rfl, by omega⟩, ⟨hS3, hG4⟩⟩
      · refine J_iconst (pc := 12) (v := nI 0) dX4_joinMoved_12 (by decide) ?_
        refine J_istore (pc := 13) dX4_joinMoved_13 (by decide) rfl ?_
        show J X mX4_joinMoved d kc ks 15 [some (.ref 12), some (.int a), some (.int (nI b2)), some (.int (nI c3)), some (.int (nI 0))] [] w2 _
        have lp15_11 : ∀ (fuel : Nat) (w12 : List jC) (b2 : Nat) (c4 : Nat), SH (rX n e r q) w12 → Fr kX w w12 → c4 < 2147483648 → b2 < 2 → c3 - c4 < fuel → J X mX4_joinMoved d kc ks 15 [some (.ref 12), some (.int a), some (.int (nI b2)), some (.int (nI c3)), some (.int (nI c4))] [] w12 (pI (fun v => ∃ k : Nat, v = nI k ∧ k < 2) (fun w' => rS n e r q w w')) := by
          intro fuellp15_11
          induction fuellp15_11 with
          | zero => intros; omega
          | succ fuellp15_11 ihlp15_11 =>
            intro w12 b2 c4 hS13 hG14 hi15 hi16 hf17
            refine J_iload (pc := 15) dX4_joinMoved_15 rfl ?_
            refine J_iload_n (pc := 17) dX4_joinMoved_17 rfl rfl ?_
            refine J_icmp_geN (pc := 18) (tgt := 61) dX4_joinMoved_18 (by decide) (by omega) (by omega) (fun ht18 => ?_) (fun hf19 => ?_)
            · refine J_iincN (pc := 61) (b := 1) dX4_joinMoved_61 rfl (by decide) (by decide) rfl ?_
              show J X mX4_joinMoved d kc ks 64 [some (.ref 12), some (.int a), some (.int (nI b2)), some (.int (nI (c3 + 1))), some (.int (nI c4))] [] w12 _
              refine J_goto (pc := 64) (tgt := 4) dX4_joinMoved_64 (by decide) ?_
              exact J_sub (L' := [some (.ref 12), some (.int a), some (.int (nI b2)), some (.int (nI (c3 + 1))), none]) ⟨rfl, ⟨rfl, ⟨rfl, ⟨rfl, trivial⟩⟩⟩⟩ (ihlp4_1 w12 b2 (c3 + 1) hS13 hG14 (by first | assumption | omega) (by first | assumption | omega) (by omega))
            · refine J_aload_n (pc := 21) dX4_joinMoved_21 rfl rfl rfl ?_
              obtain ⟨_, hc20, ka20, rfl, hb20_0⟩ := hS13 12 _ rfl
              refine J_get (pc := 22) (k := 0) dX4_joinMoved_22 kC5 (by decide) ff_X4_11 hc20 rfl ?_
              refine J_iload_n (pc := 25) dX4_joinMoved_25 rfl rfl ?_
              obtain ⟨_, hc21, xs21, rfl, hl21⟩ := hS13 13 _ rfl
              refine J_iald (pc := 26) dX4_joinMoved_26 hc21 (nI_in (by omega) (by omega)) (J_absI fun x22 => ?_)
              refine J_iload (pc := 27) dX4_joinMoved_27 rfl ?_
              refine J_callSN0 (pc := 29) (M := mX4_joinMoved) (as := [.int x22, .int (nI c4)]) dX4_joinMoved_29 fw_X6_has fl_X4_29 fs_X6_has rfl (c_X6_has hs (d := d - 1) (by omega) (w := w12) x22 (nI c4) (kc := 0) (ks := 0)) (by omega) (st := []) (Nat.le_of_ble_eq_true rfl) rfl (kr_P fun v23 hv23 => ?_) kx_I
              obtain ⟨k23, rfl, hk23⟩ := hv23
              refine J_if_eqN (pc := 32) (tgt := 55) dX4_joinMoved_32 (by decide) (by omega) (fun ht24 => ?_) (fun hf25 => ?_)
              · refine J_iincN (pc := 55) (b := 1) dX4_joinMoved_55 rfl (by decide) (by decide) rfl ?_
                show J X mX4_joinMoved d kc ks 58 [some (.ref 12), some (.int a), some (.int (nI b2)), some (.int (nI c3)), some (.int (nI (c4 + 1)))] [] w12 _
                refine J_goto (pc := 58) (tgt := 15) dX4_joinMoved_58 (by decide) ?_
                exact J_sub (L' := [some (.ref 12), some (.int a), some (.int (nI b2)), some (.int (nI c3)), some (.int (nI (c4 + 1)))]) ⟨rfl, ⟨rfl, ⟨rfl, ⟨rfl, ⟨rfl, trivial⟩⟩⟩⟩⟩ (ihlp15_11 w12 b2 (c4 + 1) hS13 hG14 (by first | assumption | omega) (by first | assumption | omega) (by omega))
              · refine J_aload_n (pc := 35) dX4_joinMoved_35 rfl rfl rfl ?_
                refine J_iload_n (pc := 36) dX4_joinMoved_36 rfl rfl ?_
                refine J_iload_n (pc := 37) dX4_joinMoved_37 rfl rfl ?_
                refine J_callS0 (pc := 38) (M := mX4_joinMoved) (as := [.int a, .int (nI c3)]) dX4_joinMoved_38 fw_X2_goal fl_X4_33 fs_X2_goal rfl (c_X2_goal hs (d := d - 1) (by omega) (w := w12) a (nI c3) (kc := 0) (ks := 0)) (by omega) (st := [.ref 12]) (Nat.le_of_ble_eq_true rfl) rfl (kr_P fun v26 hv26 => ?_) kx_I
                obtain ⟨k26, rfl, hk26⟩ := hv26
                refine J_iload_n (pc := 41) dX4_joinMoved_41 rfl rfl ?_
                refine J_iload (pc := 42) dX4_joinMoved_42 rfl ?_
                refine J_callS0 (pc := 44) (M := mX4_joinMoved) (as := [.int a, .int (nI c4)]) dX4_joinMoved_44 fw_X2_goal fl_X4_33 fs_X2_goal rfl (c_X2_goal hs (d := d - 1) (by omega) (w := w12) a (nI c4) (kc := 0) (ks := 0)) (by omega) (st := [.int (nI k26), .ref 12]) (Nat.le_of_ble_eq_true rfl) rfl (kr_P fun v27 hv27 => ?_) kx_I
                obtain ⟨k27, rfl, hk27⟩ := hv27
                refine J_callV0 (pc := 47) (M := mX4_joinMoved) (as := [.int (nI k26), .int (nI k27)]) dX4_joinMoved_47 fw_X4_join fl_X4_36 fm_X4_join fe_X4_join hc20 (by decide) rfl rfl rfl (c_X4_join hs (d := d - 1) (by omega) (e := e) (r := r) (q := q) hn1 hn2 hS13 (w := w12) k26 k27 (by omega) (by omega) (kc := 0) (ks := 0)) (by omega) (st := []) (Nat.le_of_ble_eq_true rfl) rfl (kr_I fun v28 w28 hv28 hw28 => ?_) kx_I
                obtain ⟨k28, rfl, hk28⟩ := hv28
                obtain ⟨hS28, hF28⟩ := hw28
                have hG28 := hG14.tr hF28
                refine J_if_eqN (pc := 50) (tgt := 55) dX4_joinMoved_50 (by decide) (by omega) (fun ht29 => ?_) (fun hf30 => ?_)
                · refine J_iincN (pc := 55) (b := 1) dX4_joinMoved_55 rfl (by decide) (by decide) rfl ?_
                  show J X mX4_joinMoved d kc ks 58 [some (.ref 12), some (.int a), some (.int (nI b2)), some (.int (nI c3)), some (.int (nI (c4 + 1)))] [] w28 _
                  refine J_goto (pc := 58) (tgt := 15) dX4_joinMoved_58 (by decide) ?_
                  exact J_sub (L' := [some (.ref 12), some (.int a), some (.int (nI b2)), some (.int (nI c3)), some (.int (nI (c4 + 1)))]) ⟨rfl, ⟨rfl, ⟨rfl, ⟨rfl, ⟨rfl, trivial⟩⟩⟩⟩⟩ (ihlp15_11 w28 b2 (c4 + 1) hS28 hG28 (by first | assumption | omega) (by first | assumption | omega) (by omega))
                · refine J_iconst (pc := 53) (v := nI 1) dX4_joinMoved_53 (by decide) ?_
                  refine J_istore_n (pc := 54) dX4_joinMoved_54 rfl (by decide) rfl ?_
                  show J X mX4_joinMoved d kc ks 55 [some (.ref 12), some (.int a), some (.int (nI 1)), some (.int (nI c3)), some (.int (nI c4))] [] w28 _
                  refine J_iincN (pc := 55) (b := 1) dX4_joinMoved_55 rfl (by decide) (by decide) rfl ?_
                  show J X mX4_joinMoved d kc ks 58 [some (.ref 12), some (.int a), some (.int (nI 1)), some (.int (nI c3)), some (.int (nI (c4 + 1)))] [] w28 _
                  refine J_goto (pc := 58) (tgt := 15) dX4_joinMoved_58 (by decide) ?_
                  exact J_sub (L' := [some (.ref 12), some (.int a), some (.int (nI 1)), some (.int (nI c3)), some (.int (nI (c4 + 1)))]) ⟨rfl, ⟨rfl, ⟨rfl, ⟨rfl, ⟨rfl, trivial⟩⟩⟩⟩⟩ (ihlp15_11 w28 1 (c4 + 1) hS28 hG28 (by first | assumption | omega) (by first | assumption | omega) (by omega))
        exact J_sub (L' := [some (.ref 12), some (.int a), some (.int (nI b2)), some (.int (nI c3)), some (.int (nI 0))]) ⟨rfl, ⟨rfl, ⟨rfl, ⟨rfl, ⟨rfl, trivial⟩⟩⟩⟩⟩ (lp15_11 _ w2 b2 0 hS3 hG4 (by first | assumption | omega) (by first | assumption | omega) (Nat.lt_succ_self _))
  exact J_sub (L' := [some (.ref 12), some (.int a), some (.int (nI 0)), some (.int (nI 0)), none]) ⟨rfl, ⟨rfl, ⟨rfl, ⟨rfl, trivial⟩⟩⟩⟩ (lp4_1 _ w 0 0 hS hG (by first | assumption | omega) (by first | assumption | omega) (Nat.lt_succ_self _))
set_option maxRecDepth 100000 in
set_option maxHeartbeats 4000000 in
theorem c_X4_joinComing {X : jX} (hs : X.1.stackTraces = false) {d : Nat} (hd : 2 ≤ d) {n : Nat} {e r q : Int32} (hn1 : 2 ≤ n) (hn2 : n ≤ 7) {w : List jC} (hS : SH (rX n e r q) w) (a : Int32) {kc ks : Nat} : jMet X mX4_joinComing d kc ks [.ref 12, .ref 1, .int a, .int (nI n)] w (pV (fun w' => rS n e r q w w')) := by
  refine jMet_of hs (by decide +kernel) (Nat.le_of_ble_eq_true rfl) (L := [some (.ref 12), some (.ref 1), some (.int a), some (.int (nI n)), none, none]) rfl ?_
  have hG : Fr kX w w := Fr.rf
  refine J_aload_n (pc := 0) dX4_joinComing_0 rfl rfl rfl ?_
  refine J_iload_n (pc := 1) dX4_joinComing_1 rfl rfl ?_
  obtain ⟨_, hc2, ka2, rfl, hb2_0⟩ := hS 12 _ rfl
  refine J_callV0 (pc := 2) (M := mX4_joinComing) (as := [.int (nI n)]) dX4_joinComing_2 fw_X4_separate fl_X4_25 fm_X4_separate fe_X4_separate hc2 (by decide) rfl rfl rfl (c_X4_separate hs (d := d - 1) (by omega) (e := e) (r := r) (q := q) hn1 hn2 hS (w := w)  (kc := 0) (ks := 0)) (by omega) (st := []) (Nat.le_of_ble_eq_true rfl) rfl (kr_V fun w1 hw1 => ?_) kx_V
  obtain ⟨hS1, hF1⟩ := hw1
  have hG1 := hG.tr hF1
  refine J_iconst (pc := 5) (v := nI 0) dX4_joinComing_5 (by decide) ?_
  refine J_istore (pc := 6) dX4_joinComing_6 (by decide) rfl ?_
  show J X mX4_joinComing d kc ks 8 [some (.ref 12), some (.ref 1), some (.int a), some (.int (nI n)), some (.int (nI 0)), none] [] w1 _
  have lp8_3 : ∀ (fuel : Nat) (w4 : List jC) (c4 : Nat), SH (rX n e r q) w4 → Fr kX w w4 → c4 < 2147483648 → 6 - c4 < fuel → J X mX4_joinComing d kc ks 8 [some (.ref 12), some (.ref 1), some (.int a), some (.int (nI n)), some (.int (nI c4)), none] [] w4 (pV (fun w' => rS n e r q w w')) := by
    intro fuellp8_3
    induction fuellp8_3 with
    | zero => intros; omega
    | succ fuellp8_3 ihlp8_3 =>
      intro w4 c4 hS5 hG6 hi7 hf8
      refine J_iload (pc := 8) dX4_joinComing_8 rfl ?_
      refine J_aload_n (pc := 10) dX4_joinComing_10 rfl rfl rfl ?_
      obtain ⟨_, hc9, xs9, rfl, hl9⟩ := hS5 1 _ rfl
      refine J_alen (pc := 11) (n := nI 6) dX4_joinComing_11 hc9 (by decide) (by rw [hl9]; rfl) ?_
      refine J_icmp_geN (pc := 12) (tgt := 64) dX4_joinComing_12 (by decide) (by omega) (by omega) (fun ht10 => ?_) (fun hf11 => ?_)
      · exact J_vret (pc := 64) dX4_joinComing_64 rfl (⟨hS5, hG6⟩)
      · refine J_iconst (pc := 15) (v := nI 0) dX4_joinComing_15 (by decide) ?_
        refine J_istore (pc := 16) dX4_joinComing_16 (by decide) rfl ?_
        show J X mX4_joinComing d kc ks 18 [some (.ref 12), some (.ref 1), some (.int a), some (.int (nI n)), some (.int (nI c4)), some (.int (nI 0))] [] w4 _
        have lp18_12 : ∀ (fuel : Nat) (w13 : List jC) (c5 : Nat), SH (rX n e r q) w13 → Fr kX w w13 → c5 < 2147483648 → 7 - c5 < fuel → J X mX4_joinComing d kc ks 18 [some (.ref 12), some (.ref 1), some (.int a), some (.int (nI n)), some (.int (nI c4)), some (.int (nI c5))] [] w13 (pV (fun w' => rS n e r q w w')) := by
          intro fuellp18_12
          induction fuellp18_12 with
          | zero => intros; omega
          | succ fuellp18_12 ihlp18_12 =>
            intro w13 c5 hS14 hG15 hi16 hf17
            refine J_iload (pc := 18) dX4_joinComing_18 rfl ?_
            refine J_aload_n (pc := 20) dX4_joinComing_20 rfl rfl rfl ?_
            obtain ⟨_, hc18, ka18, rfl, hb18_0⟩ := hS14 12 _ rfl
            refine J_get (pc := 21) (k := 1) dX4_joinComing_21 kC5 (by decide) ff_X4_17 hc18 rfl ?_
            refine J_icmp_geN (pc := 24) (tgt := 58) dX4_joinComing_24 (by decide) (by omega) (by omega) (fun ht19 => ?_) (fun hf20 => ?_)
            · refine J_iincN (pc := 58) (b := 1) dX4_joinComing_58 rfl (by decide) (by decide) rfl ?_
              show J X mX4_joinComing d kc ks 61 [some (.ref 12), some (.ref 1), some (.int a), some (.int (nI n)), some (.int (nI (c4 + 1))), some (.int (nI c5))] [] w13 _
              refine J_goto (pc := 61) (tgt := 8) dX4_joinComing_61 (by decide) ?_
              exact J_sub (L' := [some (.ref 12), some (.ref 1), some (.int a), some (.int (nI n)), some (.int (nI (c4 + 1))), none]) ⟨rfl, ⟨rfl, ⟨rfl, ⟨rfl, ⟨rfl, trivial⟩⟩⟩⟩⟩ (ihlp8_3 w13 (c4 + 1) hS14 hG15 (by first | assumption | omega) (by omega))
            · refine J_iload_n (pc := 27) dX4_joinComing_27 rfl rfl ?_
              refine J_iload (pc := 28) dX4_joinComing_28 rfl ?_
              refine J_callSN0 (pc := 30) (M := mX4_joinComing) (as := [.int a, .int (nI c4)]) dX4_joinComing_30 fw_X6_has fl_X4_29 fs_X6_has rfl (c_X6_has hs (d := d - 1) (by omega) (w := w13) a (nI c4) (kc := 0) (ks := 0)) (by omega) (st := []) (Nat.le_of_ble_eq_true rfl) rfl (kr_P fun v21 hv21 => ?_) kx_I
              obtain ⟨k21, rfl, hk21⟩ := hv21
              refine J_if_eqN (pc := 33) (tgt := 58) dX4_joinComing_33 (by decide) (by omega) (fun ht22 => ?_) (fun hf23 => ?_)
              · refine J_iincN (pc := 58) (b := 1) dX4_joinComing_58 rfl (by decide) (by decide) rfl ?_
                show J X mX4_joinComing d kc ks 61 [some (.ref 12), some (.ref 1), some (.int a), some (.int (nI n)), some (.int (nI (c4 + 1))), some (.int (nI c5))] [] w13 _
                refine J_goto (pc := 61) (tgt := 8) dX4_joinComing_61 (by decide) ?_
                exact J_sub (L' := [some (.ref 12), some (.ref 1), some (.int a), some (.int (nI n)), some (.int (nI (c4 + 1))), none]) ⟨rfl, ⟨rfl, ⟨rfl, ⟨rfl, ⟨rfl, trivial⟩⟩⟩⟩⟩ (ihlp8_3 w13 (c4 + 1) hS14 hG15 (by first | assumption | omega) (by omega))
              · refine J_aload_n (pc := 36) dX4_joinComing_36 rfl rfl rfl ?_
                refine J_iload (pc := 37) dX4_joinComing_37 rfl ?_
                refine J_aload_n (pc := 39) dX4_joinComing_39 rfl rfl rfl ?_
                refine J_iload (pc := 40) dX4_joinComing_40 rfl ?_
                obtain ⟨_, hc24, xs24, rfl, hl24⟩ := hS14 1 _ rfl
                refine J_iald (pc := 42) dX4_joinComing_42 hc24 (nI_in (by omega) (by omega)) (J_absI fun x25 => ?_)
                refine J_iload (pc := 43) dX4_joinComing_43 rfl ?_
                refine J_callS0 (pc := 45) (M := mX4_joinComing) (as := [.int x25, .int (nI c5)]) dX4_joinComing_45 fw_X2_goal fl_X4_33 fs_X2_goal rfl (c_X2_goal hs (d := d - 1) (by omega) (w := w13) x25 (nI c5) (kc := 0) (ks := 0)) (by omega) (st := [.int (nI c5), .ref 12]) (Nat.le_of_ble_eq_true rfl) rfl (kr_P fun v26 hv26 => ?_) kx_I
                obtain ⟨k26, rfl, hk26⟩ := hv26
                refine J_callV0 (pc := 48) (M := mX4_joinComing) (as := [.int (nI c5), .int (nI k26)]) dX4_joinComing_48 fw_X4_join fl_X4_36 fm_X4_join fe_X4_join hc18 (by decide) rfl rfl rfl (c_X4_join hs (d := d - 1) (by omega) (e := e) (r := r) (q := q) hn1 hn2 hS14 (w := w13) c5 k26 (by omega) (by omega) (kc := 0) (ks := 0)) (by omega) (st := []) (Nat.le_of_ble_eq_true rfl) rfl (kr_I fun v27 w27 hv27 hw27 => ?_) kx_I
                obtain ⟨k27, rfl, hk27⟩ := hv27
                obtain ⟨hS27, hF27⟩ := hw27
                have hG27 := hG15.tr hF27
                refine J_pop (pc := 51) dX4_joinComing_51 rfl ?_
                refine J_iincN (pc := 52) (b := 1) dX4_joinComing_52 rfl (by decide) (by decide) rfl ?_
                show J X mX4_joinComing d kc ks 55 [some (.ref 12), some (.ref 1), some (.int a), some (.int (nI n)), some (.int (nI c4)), some (.int (nI (c5 + 1)))] [] w27 _
                refine J_goto (pc := 55) (tgt := 18) dX4_joinComing_55 (by decide) ?_
                exact J_sub (L' := [some (.ref 12), some (.ref 1), some (.int a), some (.int (nI n)), some (.int (nI c4)), some (.int (nI (c5 + 1)))]) ⟨rfl, ⟨rfl, ⟨rfl, ⟨rfl, ⟨rfl, ⟨rfl, trivial⟩⟩⟩⟩⟩⟩ (ihlp18_12 w27 (c5 + 1) hS27 hG27 (by first | assumption | omega) (by omega))
        exact J_sub (L' := [some (.ref 12), some (.ref 1), some (.int a), some (.int (nI n)), some (.int (nI c4)), some (.int (nI 0))]) ⟨rfl, ⟨rfl, ⟨rfl, ⟨rfl, ⟨rfl, ⟨rfl, trivial⟩⟩⟩⟩⟩⟩ (lp18_12 _ w4 0 hS5 hG6 (by first | assumption | omega) (Nat.lt_succ_self _))
  exact J_sub (L' := [some (.ref 12), some (.ref 1), some (.int a), some (.int (nI n)), some (.int (nI 0)), none]) ⟨rfl, ⟨rfl, ⟨rfl, ⟨rfl, ⟨rfl, trivial⟩⟩⟩⟩⟩ (lp8_3 _ w1 0 hS1 hG1 (by first | assumption | omega) (Nat.lt_succ_self _))
set_option maxRecDepth 100000 in
set_option maxHeartbeats 4000000 in
theorem c_X4_joinBlocks {X : jX} (hs : X.1.stackTraces = false) {d : Nat} (hd : 3 ≤ d) {n : Nat} {e r q : Int32} (hn1 : 2 ≤ n) (hn2 : n ≤ 7) {w : List jC} (hS : SH (rX n e r q) w) (a : Int32) (a1 : Nat) (a2 : Nat) (hy0 : a1 < 8) (hy1 : a2 < 8) {kc ks : Nat} : jMet X mX4_joinBlocks d kc ks [.ref 12, .ref 1, .int a, .int (nI a1), .int (nI a2), .int (nI n)] w (pV (fun w' => rS n e r q w w')) := by
  refine jMet_of hs (by decide +kernel) (Nat.le_of_ble_eq_true rfl) (L := [some (.ref 12), some (.ref 1), some (.int a), some (.int (nI a1)), some (.int (nI a2)), some (.int (nI n)), none, none, none]) rfl ?_
  have hG : Fr kX w w := Fr.rf
  refine J_aload_n (pc := 0) dX4_joinBlocks_0 rfl rfl rfl ?_
  refine J_iload (pc := 1) dX4_joinBlocks_1 rfl ?_
  obtain ⟨_, hc2, ka2, rfl, hb2_0⟩ := hS 12 _ rfl
  refine J_callV0 (pc := 3) (M := mX4_joinBlocks) (as := [.int (nI n)]) dX4_joinBlocks_3 fw_X4_separate fl_X4_25 fm_X4_separate fe_X4_separate hc2 (by decide) rfl rfl rfl (c_X4_separate hs (d := d - 1) (by omega) (e := e) (r := r) (q := q) hn1 hn2 hS (w := w)  (kc := 0) (ks := 0)) (by omega) (st := []) (Nat.le_of_ble_eq_true rfl) rfl (kr_V fun w1 hw1 => ?_) kx_V
  obtain ⟨hS1, hF1⟩ := hw1
  have hG1 := hG.tr hF1
  refine J_aload_n (pc := 6) dX4_joinBlocks_6 rfl rfl rfl ?_
  refine J_iload_n (pc := 7) dX4_joinBlocks_7 rfl rfl ?_
  refine J_iload (pc := 8) dX4_joinBlocks_8 rfl ?_
  obtain ⟨_, hc4, ka4, rfl, hb4_0⟩ := hS1 12 _ rfl
  refine J_callV0 (pc := 10) (M := mX4_joinBlocks) (as := [.int (nI a1), .int (nI a2)]) dX4_joinBlocks_10 fw_X4_join fl_X4_36 fm_X4_join fe_X4_join hc4 (by decide) rfl rfl rfl (c_X4_join hs (d := d - 1) (by omega) (e := e) (r := r) (q := q) hn1 hn2 hS1 (w := w1) a1 a2 (by omega) (by omega) (kc := 0) (ks := 0)) (by omega) (st := []) (Nat.le_of_ble_eq_true rfl) rfl (kr_I fun v3 w3 hv3 hw3 => ?_) kx_I
  obtain ⟨k3, rfl, hk3⟩ := hv3
  obtain ⟨hS3, hF3⟩ := hw3
  have hG3 := hG1.tr hF3
  refine J_istore (pc := 13) dX4_joinBlocks_13 (by decide) rfl ?_
  show J X mX4_joinBlocks d kc ks 15 [some (.ref 12), some (.ref 1), some (.int a), some (.int (nI a1)), some (.int (nI a2)), some (.int (nI n)), some (.int (nI k3)), none, none] [] w3 _
  refine J_iconst (pc := 15) (v := nI 0) dX4_joinBlocks_15 (by decide) ?_
  refine J_istore (pc := 16) dX4_joinBlocks_16 (by decide) rfl ?_
  show J X mX4_joinBlocks d kc ks 18 [some (.ref 12), some (.ref 1), some (.int a), some (.int (nI a1)), some (.int (nI a2)), some (.int (nI n)), some (.int (nI k3)), some (.int (nI 0)), none] [] w3 _
  have lp18_5 : ∀ (fuel : Nat) (w6 : List jC) (b6 : Nat) (c7 : Nat), SH (rX n e r q) w6 → Fr kX w w6 → c7 < 2147483648 → b6 < 2 → 7 - c7 < fuel → J X mX4_joinBlocks d kc ks 18 [some (.ref 12), some (.ref 1), some (.int a), some (.int (nI a1)), some (.int (nI a2)), some (.int (nI n)), some (.int (nI b6)), some (.int (nI c7)), none] [] w6 (pV (fun w' => rS n e r q w w')) := by
    intro fuellp18_5
    induction fuellp18_5 with
    | zero => intros; omega
    | succ fuellp18_5 ihlp18_5 =>
      intro w6 b6 c7 hS7 hG8 hi9 hi10 hf11
      refine J_iload (pc := 18) dX4_joinBlocks_18 rfl ?_
      refine J_bipush (pc := 20) (v := nI 7) dX4_joinBlocks_20 (by decide) ?_
      refine J_icmp_geN (pc := 22) (tgt := 78) dX4_joinBlocks_22 (by decide) (by omega) (by omega) (fun ht12 => ?_) (fun hf13 => ?_)
      · exact J_vret (pc := 78) dX4_joinBlocks_78 rfl (⟨hS7, hG8⟩)
      · refine J_iload (pc := 25) dX4_joinBlocks_25 rfl ?_
        refine J_if_eqN (pc := 27) (tgt := 78) dX4_joinBlocks_27 (by decide) (by omega) (fun ht14 => ?_) (fun hf15 => ?_)
        · exact J_vret (pc := 78) dX4_joinBlocks_78 rfl (⟨hS7, hG8⟩)
        · refine J_iconst (pc := 30) (v := nI 0) dX4_joinBlocks_30 (by decide) ?_
          refine J_istore (pc := 31) dX4_joinBlocks_31 (by decide) rfl ?_
          show J X mX4_joinBlocks d kc ks 33 [some (.ref 12), some (.ref 1), some (.int a), some (.int (nI a1)), some (.int (nI a2)), some (.int (nI n)), some (.int (nI 0)), some (.int (nI c7)), none] [] w6 _
          refine J_iconst (pc := 33) (v := nI 0) dX4_joinBlocks_33 (by decide) ?_
          refine J_istore (pc := 34) dX4_joinBlocks_34 (by decide) rfl ?_
          show J X mX4_joinBlocks d kc ks 36 [some (.ref 12), some (.ref 1), some (.int a), some (.int (nI a1)), some (.int (nI a2)), some (.int (nI n)), some (.int (nI 0)), some (.int (nI c7)), some (.int (nI 0))] [] w6 _
          have lp36_16 : ∀ (fuel : Nat) (w17 : List jC) (b6 : Nat) (c8 : Nat), SH (rX n e r q) w17 → Fr kX w w17 → c8 < 2147483648 → b6 < 2 → 6 - c8 < fuel → J X mX4_joinBlocks d kc ks 36 [some (.ref 12), some (.ref 1), some (.int a), some (.int (nI a1)), some (.int (nI a2)), some (.int (nI n)), some (.int (nI b6)), some (.int (nI c7)), some (.int (nI c8))] [] w17 (pV (fun w' => rS n e r q w w')) := by
            intro fuellp36_16
            induction fuellp36_16 with
            | zero => intros; omega
            | succ fuellp36_16 ihlp36_16 =>
              intro w17 b6 c8 hS18 hG19 hi20 hi21 hf22
              refine J_iload (pc := 36) dX4_joinBlocks_36 rfl ?_
              refine J_aload_n (pc := 38) dX4_joinBlocks_38 rfl rfl rfl ?_
              obtain ⟨_, hc23, xs23, rfl, hl23⟩ := hS18 1 _ rfl
              refine J_alen (pc := 39) (n := nI 6) dX4_joinBlocks_39 hc23 (by decide) (by rw [hl23]; rfl) ?_
              refine J_icmp_geN (pc := 40) (tgt := 72) dX4_joinBlocks_40 (by decide) (by omega) (by omega) (fun ht24 => ?_) (fun hf25 => ?_)
              · refine J_iincN (pc := 72) (b := 1) dX4_joinBlocks_72 rfl (by decide) (by decide) rfl ?_
                show J X mX4_joinBlocks d kc ks 75 [some (.ref 12), some (.ref 1), some (.int a), some (.int (nI a1)), some (.int (nI a2)), some (.int (nI n)), some (.int (nI b6)), some (.int (nI (c7 + 1))), some (.int (nI c8))] [] w17 _
                refine J_goto (pc := 75) (tgt := 18) dX4_joinBlocks_75 (by decide) ?_
                exact J_sub (L' := [some (.ref 12), some (.ref 1), some (.int a), some (.int (nI a1)), some (.int (nI a2)), some (.int (nI n)), some (.int (nI b6)), some (.int (nI (c7 + 1))), none]) ⟨rfl, ⟨rfl, ⟨rfl, ⟨rfl, ⟨rfl, ⟨rfl, ⟨rfl, ⟨rfl, trivial⟩⟩⟩⟩⟩⟩⟩⟩ (ihlp18_5 w17 b6 (c7 + 1) hS18 hG19 (by first | assumption | omega) (by first | assumption | omega) (by omega))
              · refine J_iload_n (pc := 43) dX4_joinBlocks_43 rfl rfl ?_
                refine J_iload (pc := 44) dX4_joinBlocks_44 rfl ?_
                refine J_callSN0 (pc := 46) (M := mX4_joinBlocks) (as := [.int a, .int (nI c8)]) dX4_joinBlocks_46 fw_X6_has fl_X4_29 fs_X6_has rfl (c_X6_has hs (d := d - 1) (by omega) (w := w17) a (nI c8) (kc := 0) (ks := 0)) (by omega) (st := []) (Nat.le_of_ble_eq_true rfl) rfl (kr_P fun v26 hv26 => ?_) kx_I
                obtain ⟨k26, rfl, hk26⟩ := hv26
                refine J_if_eqN (pc := 49) (tgt := 66) dX4_joinBlocks_49 (by decide) (by omega) (fun ht27 => ?_) (fun hf28 => ?_)
                · refine J_iincN (pc := 66) (b := 1) dX4_joinBlocks_66 rfl (by decide) (by decide) rfl ?_
                  show J X mX4_joinBlocks d kc ks 69 [some (.ref 12), some (.ref 1), some (.int a), some (.int (nI a1)), some (.int (nI a2)), some (.int (nI n)), some (.int (nI b6)), some (.int (nI c7)), some (.int (nI (c8 + 1)))] [] w17 _
                  refine J_goto (pc := 69) (tgt := 36) dX4_joinBlocks_69 (by decide) ?_
                  exact J_sub (L' := [some (.ref 12), some (.ref 1), some (.int a), some (.int (nI a1)), some (.int (nI a2)), some (.int (nI n)), some (.int (nI b6)), some (.int (nI c7)), some (.int (nI (c8 + 1)))]) ⟨rfl, ⟨rfl, ⟨rfl, ⟨rfl, ⟨rfl, ⟨rfl, ⟨rfl, ⟨rfl, ⟨rfl, trivial⟩⟩⟩⟩⟩⟩⟩⟩⟩ (ihlp36_16 w17 b6 (c8 + 1) hS18 hG19 (by first | assumption | omega) (by first | assumption | omega) (by omega))
                · refine J_aload_n (pc := 52) dX4_joinBlocks_52 rfl rfl rfl ?_
                  refine J_aload_n (pc := 53) dX4_joinBlocks_53 rfl rfl rfl ?_
                  refine J_iload (pc := 54) dX4_joinBlocks_54 rfl ?_
                  refine J_iald (pc := 56) dX4_joinBlocks_56 hc23 (nI_in (by omega) (by omega)) (J_absI fun x29 => ?_)
                  obtain ⟨_, hc31, ka31, rfl, hb31_0⟩ := hS18 12 _ rfl
                  refine J_callV0 (pc := 57) (M := mX4_joinBlocks) (as := [.int x29]) dX4_joinBlocks_57 fw_X4_joinMoved fl_X4_39 fm_X4_joinMoved fe_X4_joinMoved hc31 (by decide) rfl rfl rfl (c_X4_joinMoved hs (d := d - 1) (by omega) (e := e) (r := r) (q := q) hn1 hn2 hS18 (w := w17) x29 (kc := 0) (ks := 0)) (by omega) (st := []) (Nat.le_of_ble_eq_true rfl) rfl (kr_I fun v30 w30 hv30 hw30 => ?_) kx_I
                  obtain ⟨k30, rfl, hk30⟩ := hv30
                  obtain ⟨hS30, hF30⟩ := hw30
                  have hG30 := hG19.tr hF30
                  refine J_if_eqN (pc := 60) (tgt := 66) dX4_joinBlocks_60 (by decide) (by omega) (fun ht32 => ?_) (fun hf33 => ?_)
                  · refine J_iincN (pc := 66) (b := 1) dX4_joinBlocks_66 rfl (by decide) (by decide) rfl ?_
                    show J X mX4_joinBlocks d kc ks 69 [some (.ref 12), some (.ref 1), some (.int a), some (.int (nI a1)), some (.int (nI a2)), some (.int (nI n)), some (.int (nI b6)), some (.int (nI c7)), some (.int (nI (c8 + 1)))] [] w30 _
                    refine J_goto (pc := 69) (tgt := 36) dX4_joinBlocks_69 (by decide) ?_
                    exact J_sub (L' := [some (.ref 12), some (.ref 1), some (.int a), some (.int (nI a1)), some (.int (nI a2)), some (.int (nI n)), some (.int (nI b6)), some (.int (nI c7)), some (.int (nI (c8 + 1)))]) ⟨rfl, ⟨rfl, ⟨rfl, ⟨rfl, ⟨rfl, ⟨rfl, ⟨rfl, ⟨rfl, ⟨rfl, trivial⟩⟩⟩⟩⟩⟩⟩⟩⟩ (ihlp36_16 w30 b6 (c8 + 1) hS30 hG30 (by first | assumption | omega) (by first | assumption | omega) (by omega))
                  · refine J_iconst (pc := 63) (v := nI 1) dX4_joinBlocks_63 (by decide) ?_
                    refine J_istore (pc := 64) dX4_joinBlocks_64 (by decide) rfl ?_
                    show J X mX4_joinBlocks d kc ks 66 [some (.ref 12), some (.ref 1), some (.int a), some (.int (nI a1)), some (.int (nI a2)), some (.int (nI n)), some (.int (nI 1)), some (.int (nI c7)), some (.int (nI c8))] [] w30 _
                    refine J_iincN (pc := 66) (b := 1) dX4_joinBlocks_66 rfl (by decide) (by decide) rfl ?_
                    show J X mX4_joinBlocks d kc ks 69 [some (.ref 12), some (.ref 1), some (.int a), some (.int (nI a1)), some (.int (nI a2)), some (.int (nI n)), some (.int (nI 1)), some (.int (nI c7)), some (.int (nI (c8 + 1)))] [] w30 _
                    refine J_goto (pc := 69) (tgt := 36) dX4_joinBlocks_69 (by decide) ?_
                    exact J_sub (L' := [some (.ref 12), some (.ref 1), some (.int a), some (.int (nI a1)), some (.int (nI a2)), some (.int (nI n)), some (.int (nI 1)), some (.int (nI c7)), some (.int (nI (c8 + 1)))]) ⟨rfl, ⟨rfl, ⟨rfl, ⟨rfl, ⟨rfl, ⟨rfl, ⟨rfl, ⟨rfl, ⟨rfl, trivial⟩⟩⟩⟩⟩⟩⟩⟩⟩ (ihlp36_16 w30 1 (c8 + 1) hS30 hG30 (by first | assumption | omega) (by first | assumption | omega) (by omega))
          exact J_sub (L' := [some (.ref 12), some (.ref 1), some (.int a), some (.int (nI a1)), some (.int (nI a2)), some (.int (nI n)), some (.int (nI 0)), some (.int (nI c7)), some (.int (nI 0))]) ⟨rfl, ⟨rfl, ⟨rfl, ⟨rfl, ⟨rfl, ⟨rfl, ⟨rfl, ⟨rfl, ⟨rfl, trivial⟩⟩⟩⟩⟩⟩⟩⟩⟩ (lp36_16 _ w6 0 0 hS7 hG8 (by first | assumption | omega) (by first | assumption | omega) (Nat.lt_succ_self _))
  exact J_sub (L' := [some (.ref 12), some (.ref 1), some (.int a), some (.int (nI a1)), some (.int (nI a2)), some (.int (nI n)), some (.int (nI k3)), some (.int (nI 0)), none]) ⟨rfl, ⟨rfl, ⟨rfl, ⟨rfl, ⟨rfl, ⟨rfl, ⟨rfl, ⟨rfl, trivial⟩⟩⟩⟩⟩⟩⟩⟩ (lp18_5 _ w3 k3 0 hS3 hG3 (by first | assumption | omega) (by first | assumption | omega) (Nat.lt_succ_self _))
set_option maxRecDepth 100000 in
set_option maxHeartbeats 4000000 in
theorem c_X3_weigh {X : jX} (hs : X.1.stackTraces = false) {d : Nat} (hd : 0 ≤ d) {n : Nat} {e r q : Int32} (hn1 : 2 ≤ n) (hn2 : n ≤ 7) {w : List jC} (hS : SH (rX n e r q) w) {kc ks : Nat} : jMet X mX3_weigh d kc ks [.ref 14] w (pI (fun _ => True) (fun w' => rS n e r q w w')) := by
  refine jMet_of hs (by decide +kernel) (Nat.le_of_ble_eq_true rfl) (L := [some (.ref 14), none, none]) rfl ?_
  have hG : Fr kX w w := Fr.rf
  refine J_iconst (pc := 0) (v := nI 1) dX3_weigh_0 (by decide) ?_
  refine J_istore_n (pc := 1) dX3_weigh_1 rfl (by decide) rfl ?_
  show J X mX3_weigh d kc ks 2 [some (.ref 14), some (.int (nI 1)), none] [] w _
  refine J_iconst (pc := 2) (v := nI 0) dX3_weigh_2 (by decide) ?_
  refine J_istore_n (pc := 3) dX3_weigh_3 rfl (by decide) rfl ?_
  show J X mX3_weigh d kc ks 4 [some (.ref 14), some (.int (nI 1)), some (.int (nI 0))] [] w _
  have lp4_1 : ∀ (fuel : Nat) (w2 : List jC) (z1 : Int32) (c2 : Nat), SH (rX n e r q) w2 → Fr kX w w2 → c2 < 2147483648 → 7 - c2 < fuel → J X mX3_weigh d kc ks 4 [some (.ref 14), some (.int z1), some (.int (nI c2))] [] w2 (pI (fun _ => True) (fun w' => rS n e r q w w')) := by
    intro fuellp4_1
    induction fuellp4_1 with
    | zero => intros; omega
    | succ fuellp4_1 ihlp4_1 =>
      intro w2 z1 c2 hS3 hG4 hi5 hf6
      refine J_iload_n (pc := 4) dX3_weigh_4 rfl rfl ?_
      refine J_aload_n (pc := 5) dX3_weigh_5 rfl rfl rfl ?_
      obtain ⟨_, hc7, ka7, kb7, rfl, hb7_0, hb7_1, hb7_2⟩ := hS3 14 _ rfl
      refine J_get (pc := 6) (k := 3) dX3_weigh_6 kC4 (by decide) ff_X3_30 hc7 rfl ?_
      refine J_icmp_geN (pc := 9) (tgt := 32) dX3_weigh_9 (by decide) (by omega) (by omega) (fun ht8 => ?_) (fun hf9 => ?_)
      · refine J_iload_n (pc := 32) dX3_weigh_32 rfl rfl ?_
        exact J_iret (pc := 33) dX3_weigh_33 rfl ⟨trivial, ⟨hS3, hG4⟩⟩
      · refine J_aload_n (pc := 12) dX3_weigh_12 rfl rfl rfl ?_
        refine J_get (pc := 13) (k := 1) dX3_weigh_13 kC4 (by decide) ff_X3_22 hc7 rfl ?_
        refine J_iload_n (pc := 16) dX3_weigh_16 rfl rfl ?_
        refine J_iload_n (pc := 17) dX3_weigh_17 rfl rfl ?_
        obtain ⟨_, hc10, xs10, rfl, hl10⟩ := hS3 18 _ rfl
        refine J_iastS (pc := 18) kX dX3_weigh_18 hS3 hc10 (nI_in (by omega) (by omega)) rfl ⟨_, rfl, by rw [List.length_set]; exact hl10⟩ (by decide) (fun w11 hS11 hc11 hne11 hF11 => ?_)
        have hG11 := hG4.tr hF11
        have hl11 : (List.set xs10 (nI c2).toNatClampNeg z1).length = 8 := by rw [List.length_set]; exact hl10
        generalize List.set xs10 (nI c2).toNatClampNeg z1 = xs11 at hc11 hl11
        have hc7_v11 := (hne11 14 (by decide)).trans hc7
        refine J_iload_n (pc := 19) dX3_weigh_19 rfl rfl ?_
        refine J_aload_n (pc := 20) dX3_weigh_20 rfl rfl rfl ?_
        refine J_get (pc := 21) (k := 2) dX3_weigh_21 kC4 (by decide) ff_X3_26 hc7_v11 rfl ?_
        refine J_imul (pc := 24) dX3_weigh_24 (J_absI fun x12 => ?_)
        refine J_istore_n (pc := 25) dX3_weigh_25 rfl (by decide) rfl ?_
        show J X mX3_weigh d kc ks 26 [some (.ref 14), some (.int x12), some (.int (nI c2))] [] w11 _
        refine J_iincN (pc := 26) (b := 1) dX3_weigh_26 rfl (by decide) (by decide) rfl ?_
        show J X mX3_weigh d kc ks 29 [some (.ref 14), some (.int x12), some (.int (nI (c2 + 1)))] [] w11 _
        refine J_goto (pc := 29) (tgt := 4) dX3_weigh_29 (by decide) ?_
        exact J_sub (L' := [some (.ref 14), some (.int x12), some (.int (nI (c2 + 1)))]) ⟨rfl, ⟨rfl, ⟨rfl, trivial⟩⟩⟩ (ihlp4_1 w11 x12 (c2 + 1) hS11 hG11 (by first | assumption | omega) (by omega))
  exact J_sub (L' := [some (.ref 14), some (.int (nI 1)), some (.int (nI 0))]) ⟨rfl, ⟨rfl, ⟨rfl, trivial⟩⟩⟩ (lp4_1 _ w (nI 1) 0 hS hG (by first | assumption | omega) (Nat.lt_succ_self _))
set_option maxRecDepth 100000 in
set_option maxHeartbeats 4000000 in
theorem c_X3_madeBy {X : jX} (hs : X.1.stackTraces = false) {d : Nat} (hd : 1 ≤ d) {n : Nat} {e r q : Int32} (hn1 : 2 ≤ n) (hn2 : n ≤ 7) {w : List jC} (hS : SH (rX n e r q) w) (a : Int32) (b : Int32) {kc ks : Nat} : jMet X mX3_madeBy d kc ks [.ref 14, .int a, .int b] w (pI (fun _ => True) (fun w' => w' = w)) := by
  refine jMet_of hs (by decide +kernel) (Nat.le_of_ble_eq_true rfl) (L := [some (.ref 14), some (.int a), some (.int b), none, none, none, none]) rfl ?_
  have hG : Fr kX w w := Fr.rf
  refine J_iconst (pc := 0) (v := nI 0) dX3_madeBy_0 (by decide) ?_
  refine J_istore_n (pc := 1) dX3_madeBy_1 rfl (by decide) rfl ?_
  show J X mX3_madeBy d kc ks 2 [some (.ref 14), some (.int a), some (.int b), some (.int (nI 0)), none, none, none] [] w _
  refine J_iload_n (pc := 2) dX3_madeBy_2 rfl rfl ?_
  refine J_istore (pc := 3) dX3_madeBy_3 (by decide) rfl ?_
  show J X mX3_madeBy d kc ks 5 [some (.ref 14), some (.int a), some (.int b), some (.int (nI 0)), some (.int b), none, none] [] w _
  refine J_iconst (pc := 5) (v := nI 0) dX3_madeBy_5 (by decide) ?_
  refine J_istore (pc := 6) dX3_madeBy_6 (by decide) rfl ?_
  show J X mX3_madeBy d kc ks 8 [some (.ref 14), some (.int a), some (.int b), some (.int (nI 0)), some (.int b), some (.int (nI 0)), none] [] w _
  have lp8_1 : ∀ (fuel : Nat) (z3 : Int32) (z4 : Int32) (c5 : Nat), c5 < 2147483648 → 7 - c5 < fuel → J X mX3_madeBy d kc ks 8 [some (.ref 14), some (.int a), some (.int b), some (.int z3), some (.int z4), some (.int (nI c5)), none] [] w (pI (fun _ => True) (fun w' => w' = w)) := by
    intro fuellp8_1
    induction fuellp8_1 with
    | zero => intros; omega
    | succ fuellp8_1 ihlp8_1 =>
      intro z3 z4 c5 hi2 hf3
      refine J_iload (pc := 8) dX3_madeBy_8 rfl ?_
      refine J_aload_n (pc := 10) dX3_madeBy_10 rfl rfl rfl ?_
      obtain ⟨_, hc4, ka4, kb4, rfl, hb4_0, hb4_1, hb4_2⟩ := hS 14 _ rfl
      refine J_get (pc := 11) (k := 3) dX3_madeBy_11 kC4 (by decide) ff_X3_30 hc4 rfl ?_
      refine J_icmp_geN (pc := 14) (tgt := 63) dX3_madeBy_14 (by decide) (by omega) (by omega) (fun ht5 => ?_) (fun hf6 => ?_)
      · refine J_iload_n (pc := 63) dX3_madeBy_63 rfl rfl ?_
        exact J_iret (pc := 64) dX3_madeBy_64 rfl ⟨trivial, rfl⟩
      · refine J_iload (pc := 17) dX3_madeBy_17 rfl ?_
        refine J_aload_n (pc := 19) dX3_madeBy_19 rfl rfl rfl ?_
        refine J_get (pc := 20) (k := 2) dX3_madeBy_20 kC4 (by decide) ff_X3_26 hc4 rfl ?_
        refine J_callSN0 (pc := 23) (M := mX3_madeBy) (as := [.int z4, .int (nI ka4)]) dX3_madeBy_23 fw_X6_quotient fl_X3_62 fs_X6_quotient rfl (c_X6_quotient hs (d := d - 1) (by omega) (w := w) z4 (nI ka4) (kc := 0) (ks := 0)) (by omega) (st := []) (Nat.le_of_ble_eq_true rfl) rfl (kr_P fun v7 hv7 => ?_) kx_I
        refine J_istore (pc := 26) dX3_madeBy_26 (by decide) rfl ?_
        show J X mX3_madeBy d kc ks 28 [some (.ref 14), some (.int a), some (.int b), some (.int z3), some (.int z4), some (.int (nI c5)), some (.int v7)] [] w _
        refine J_iload_n (pc := 28) dX3_madeBy_28 rfl rfl ?_
        refine J_iload (pc := 29) dX3_madeBy_29 rfl ?_
        refine J_iload (pc := 31) dX3_madeBy_31 rfl ?_
        refine J_aload_n (pc := 33) dX3_madeBy_33 rfl rfl rfl ?_
        refine J_get (pc := 34) (k := 2) dX3_madeBy_34 kC4 (by decide) ff_X3_26 hc4 rfl ?_
        refine J_imul (pc := 37) dX3_madeBy_37 (J_absI fun x8 => ?_)
        refine J_isub (pc := 38) dX3_madeBy_38 (J_absI fun x9 => ?_)
        refine J_aload_n (pc := 39) dX3_madeBy_39 rfl rfl rfl ?_
        refine J_get (pc := 40) (k := 1) dX3_madeBy_40 kC4 (by decide) ff_X3_22 hc4 rfl ?_
        refine J_iload_n (pc := 43) dX3_madeBy_43 rfl rfl ?_
        refine J_iload (pc := 44) dX3_madeBy_44 rfl ?_
        refine J_callS0 (pc := 46) (M := mX3_madeBy) (as := [.int a, .int (nI c5)]) dX3_madeBy_46 fw_X2_goal fl_X3_65 fs_X2_goal rfl (c_X2_goal hs (d := d - 1) (by omega) (w := w) a (nI c5) (kc := 0) (ks := 0)) (by omega) (st := [.ref 18, .int x9, .int z3]) (Nat.le_of_ble_eq_true rfl) rfl (kr_P fun v10 hv10 => ?_) kx_I
        obtain ⟨k10, rfl, hk10⟩ := hv10
        obtain ⟨_, hc11, xs11, rfl, hl11⟩ := hS 18 _ rfl
        refine J_iald (pc := 49) dX3_madeBy_49 hc11 (nI_in (by omega) (by omega)) (J_absI fun x12 => ?_)
        refine J_imul (pc := 50) dX3_madeBy_50 (J_absI fun x13 => ?_)
        refine J_iadd (pc := 51) dX3_madeBy_51 (J_absI fun x14 => ?_)
        refine J_istore_n (pc := 52) dX3_madeBy_52 rfl (by decide) rfl ?_
        show J X mX3_madeBy d kc ks 53 [some (.ref 14), some (.int a), some (.int b), some (.int x14), some (.int z4), some (.int (nI c5)), some (.int v7)] [] w _
        refine J_iload (pc := 53) dX3_madeBy_53 rfl ?_
        refine J_istore (pc := 55) dX3_madeBy_55 (by decide) rfl ?_
        show J X mX3_madeBy d kc ks 57 [some (.ref 14), some (.int a), some (.int b), some (.int x14), some (.int v7), some (.int (nI c5)), some (.int v7)] [] w _
        refine J_iincN (pc := 57) (b := 1) dX3_madeBy_57 rfl (by decide) (by decide) rfl ?_
        show J X mX3_madeBy d kc ks 60 [some (.ref 14), some (.int a), some (.int b), some (.int x14), some (.int v7), some (.int (nI (c5 + 1))), some (.int v7)] [] w _
        refine J_goto (pc := 60) (tgt := 8) dX3_madeBy_60 (by decide) ?_
        exact J_sub (L' := [some (.ref 14), some (.int a), some (.int b), some (.int x14), some (.int v7), some (.int (nI (c5 + 1))), none]) ⟨rfl, ⟨rfl, ⟨rfl, ⟨rfl, ⟨rfl, ⟨rfl, trivial⟩⟩⟩⟩⟩⟩ (ihlp8_1 x14 v7 (c5 + 1) (by first | assumption | omega) (by omega))
  exact J_sub (L' := [some (.ref 14), some (.int a), some (.int b), some (.int (nI 0)), some (.int b), some (.int (nI 0)), none]) ⟨rfl, ⟨rfl, ⟨rfl, ⟨rfl, ⟨rfl, ⟨rfl, trivial⟩⟩⟩⟩⟩⟩ (lp8_1 _ (nI 0) b 0 (by first | assumption | omega) (Nat.lt_succ_self _))
set_option maxRecDepth 100000 in
set_option maxHeartbeats 4000000 in
theorem c_X3_spread {X : jX} (hs : X.1.stackTraces = false) {d : Nat} (hd : 2 ≤ d) {n : Nat} {e r q : Int32} (hn1 : 2 ≤ n) (hn2 : n ≤ 7) {w : List jC} (hS : SH (rX n e r q) w) (a : Int32) {kc ks : Nat} : jMet X mX3_spread d kc ks [.ref 14, .ref 1, .int a] w (pV (fun w' => rS n e r q w w')) := by
  refine jMet_of hs (by decide +kernel) (Nat.le_of_ble_eq_true rfl) (L := [some (.ref 14), some (.ref 1), some (.int a), none, none, none]) rfl ?_
  have hG : Fr kX w w := Fr.rf
  refine J_aload_n (pc := 0) dX3_spread_0 rfl rfl rfl ?_
  obtain ⟨_, hc1, ka1, kb1, rfl, hb1_0, hb1_1, hb1_2⟩ := hS 14 _ rfl
  refine J_get (pc := 1) (k := 0) dX3_spread_1 kC4 (by decide) ff_X3_14 hc1 rfl ?_
  obtain ⟨_, hc3, ka3, rfl, hb3_0⟩ := hS 15 _ rfl
  refine J_callV0 (pc := 4) (M := mX3_spread) (as := []) dX3_spread_4 fw_X1_length fl_X3_48 fm_X1_length fe_X1_length hc3 (by decide) rfl rfl rfl (c_X1_length_at15 hs (d := d - 1) (by omega) (e := e) (r := r) (q := q) hn1 hn2 hS (w := w)  (kc := 0) (ks := 0)) (by omega) (st := []) (Nat.le_of_ble_eq_true rfl) rfl (kr_P fun v2 hv2 => ?_) kx_I
  obtain ⟨k2, rfl, hk2⟩ := hv2
  refine J_iconst (pc := 7) (v := nI 1) dX3_spread_7 (by decide) ?_
  refine J_isub (pc := 8) dX3_spread_8 (J_absI fun x4 => ?_)
  refine J_istore_n (pc := 9) dX3_spread_9 rfl (by decide) rfl ?_
  show J X mX3_spread d kc ks 10 [some (.ref 14), some (.ref 1), some (.int a), some (.int x4), none, none] [] w _
  have lp10_5 : ∀ (fuel : Nat) (w6 : List jC) (z3 : Int32), SH (rX n e r q) w6 → Fr kX w w6 → tI z3 < fuel → J X mX3_spread d kc ks 10 [some (.ref 14), some (.ref 1), some (.int a), some (.int z3), none, none] [] w6 (pV (fun w' => rS n e r q w w')) := by
    intro fuellp10_5
    induction fuellp10_5 with
    | zero => intros; omega
    | succ fuellp10_5 ihlp10_5 =>
      intro w6 z3 hS7 hG8 hf9
      refine J_iload_n (pc := 10) dX3_spread_10 rfl rfl ?_
      refine J_sipush (pc := 11) (v := nI 2187) dX3_spread_11 (by decide) ?_
      refine J_icmp_ge (pc := 14) (tgt := 89) dX3_spread_14 (by decide) (fun ht10 => ?_) (fun hf11 => ?_)
      · exact J_vret (pc := 89) dX3_spread_89 rfl (⟨hS7, hG8⟩)
      · refine J_iload_n (pc := 17) dX3_spread_17 rfl rfl ?_
        refine J_aload_n (pc := 18) dX3_spread_18 rfl rfl rfl ?_
        obtain ⟨_, hc12, ka12, kb12, rfl, hb12_0, hb12_1, hb12_2⟩ := hS7 14 _ rfl
        refine J_get (pc := 19) (k := 0) dX3_spread_19 kC4 (by decide) ff_X3_14 hc12 rfl ?_
        obtain ⟨_, hc14, ka14, rfl, hb14_0⟩ := hS7 15 _ rfl
        refine J_callV0 (pc := 22) (M := mX3_spread) (as := []) dX3_spread_22 fw_X1_length fl_X3_48 fm_X1_length fe_X1_length hc14 (by decide) rfl rfl rfl (c_X1_length_at15 hs (d := d - 1) (by omega) (e := e) (r := r) (q := q) hn1 hn2 hS7 (w := w6)  (kc := 0) (ks := 0)) (by omega) (st := [.int z3]) (Nat.le_of_ble_eq_true rfl) rfl (kr_P fun v13 hv13 => ?_) kx_I
        obtain ⟨k13, rfl, hk13⟩ := hv13
        refine J_icmp_ge (pc := 25) (tgt := 89) dX3_spread_25 (by decide) (fun ht15 => ?_) (fun hf16 => ?_)
        · exact J_vret (pc := 89) dX3_spread_89 rfl (⟨hS7, hG8⟩)
        · refine J_iconst (pc := 28) (v := nI 0) dX3_spread_28 (by decide) ?_
          refine J_istore (pc := 29) dX3_spread_29 (by decide) rfl ?_
          show J X mX3_spread d kc ks 31 [some (.ref 14), some (.ref 1), some (.int a), some (.int z3), some (.int (nI 0)), none] [] w6 _
          have lp31_17 : ∀ (fuel : Nat) (w18 : List jC) (c4 : Nat), SH (rX n e r q) w18 → Fr kX w w18 → c4 < 2147483648 → 6 - c4 < fuel → J X mX3_spread d kc ks 31 [some (.ref 14), some (.ref 1), some (.int a), some (.int z3), some (.int (nI c4)), none] [] w18 (pV (fun w' => rS n e r q w w')) := by
            intro fuellp31_17
            induction fuellp31_17 with
            | zero => intros; omega
            | succ fuellp31_17 ihlp31_17 =>
              intro w18 c4 hS19 hG20 hi21 hf22
              refine J_iload (pc := 31) dX3_spread_31 rfl ?_
              refine J_aload_n (pc := 33) dX3_spread_33 rfl rfl rfl ?_
              obtain ⟨_, hc23, xs23, rfl, hl23⟩ := hS19 1 _ rfl
              refine J_alen (pc := 34) (n := nI 6) dX3_spread_34 hc23 (by decide) (by rw [hl23]; rfl) ?_
              refine J_icmp_geN (pc := 35) (tgt := 83) dX3_spread_35 (by decide) (by omega) (by omega) (fun ht24 => ?_) (fun hf25 => ?_)
              · have hd83 := tI_dec (Int32.not_le.mp (by assumption : ¬ nI 2187 ≤ z3))
                refine J_iinc (pc := 83) dX3_spread_83 rfl rfl (by decide) rfl ?_
                show J X mX3_spread d kc ks 86 [some (.ref 14), some (.ref 1), some (.int a), some (.int (z3 + Int32.ofInt 1)), some (.int (nI c4)), none] [] w18 _
                refine J_goto (pc := 86) (tgt := 10) dX3_spread_86 (by decide) ?_
                exact J_sub (L' := [some (.ref 14), some (.ref 1), some (.int a), some (.int (z3 + Int32.ofInt 1)), none, none]) ⟨rfl, ⟨rfl, ⟨rfl, ⟨rfl, trivial⟩⟩⟩⟩ (ihlp10_5 w18 (z3 + Int32.ofInt 1) hS19 hG20 (by omega))
              · refine J_iload_n (pc := 38) dX3_spread_38 rfl rfl ?_
                refine J_iload (pc := 39) dX3_spread_39 rfl ?_
                refine J_callSN0 (pc := 41) (M := mX3_spread) (as := [.int a, .int (nI c4)]) dX3_spread_41 fw_X6_has fl_X3_51 fs_X6_has rfl (c_X6_has hs (d := d - 1) (by omega) (w := w18) a (nI c4) (kc := 0) (ks := 0)) (by omega) (st := []) (Nat.le_of_ble_eq_true rfl) rfl (kr_P fun v26 hv26 => ?_) kx_I
                obtain ⟨k26, rfl, hk26⟩ := hv26
                refine J_if_eqN (pc := 44) (tgt := 77) dX3_spread_44 (by decide) (by omega) (fun ht27 => ?_) (fun hf28 => ?_)
                · refine J_iincN (pc := 77) (b := 1) dX3_spread_77 rfl (by decide) (by decide) rfl ?_
                  show J X mX3_spread d kc ks 80 [some (.ref 14), some (.ref 1), some (.int a), some (.int z3), some (.int (nI (c4 + 1))), none] [] w18 _
                  refine J_goto (pc := 80) (tgt := 31) dX3_spread_80 (by decide) ?_
                  exact J_sub (L' := [some (.ref 14), some (.ref 1), some (.int a), some (.int z3), some (.int (nI (c4 + 1))), none]) ⟨rfl, ⟨rfl, ⟨rfl, ⟨rfl, ⟨rfl, trivial⟩⟩⟩⟩⟩ (ihlp31_17 w18 (c4 + 1) hS19 hG20 (by first | assumption | omega) (by omega))
                · refine J_aload_n (pc := 47) dX3_spread_47 rfl rfl rfl ?_
                  refine J_aload_n (pc := 48) dX3_spread_48 rfl rfl rfl ?_
                  refine J_iload (pc := 49) dX3_spread_49 rfl ?_
                  refine J_iald (pc := 51) dX3_spread_51 hc23 (nI_in (by omega) (by omega)) (J_absI fun x29 => ?_)
                  refine J_aload_n (pc := 52) dX3_spread_52 rfl rfl rfl ?_
                  obtain ⟨_, hc30, ka30, kb30, rfl, hb30_0, hb30_1, hb30_2⟩ := hS19 14 _ rfl
                  refine J_get (pc := 53) (k := 0) dX3_spread_53 kC4 (by decide) ff_X3_14 hc30 rfl ?_
                  refine J_iload_n (pc := 56) dX3_spread_56 rfl rfl ?_
                  obtain ⟨_, hc32, ka32, rfl, hb32_0⟩ := hS19 15 _ rfl
                  refine J_callV0 (pc := 57) (M := mX3_spread) (as := [.int z3]) dX3_spread_57 fw_X1_thing fl_X3_54 fm_X1_thing fe_X1_thing hc32 (by decide) rfl rfl rfl (c_X1_thing_at15 hs (d := d - 1) (by omega) (e := e) (r := r) (q := q) hn1 hn2 hS19 (w := w18) z3 (kc := 0) (ks := 0)) (by omega) (st := [.int x29, .ref 14]) (Nat.le_of_ble_eq_true rfl) rfl (kr_P fun v31 hv31 => ?_) kx_I
                  refine J_callV0 (pc := 60) (M := mX3_spread) (as := [.int x29, .int v31]) dX3_spread_60 fw_X3_madeBy fl_X3_58 fm_X3_madeBy fe_X3_madeBy hc30 (by decide) rfl rfl rfl (c_X3_madeBy hs (d := d - 1) (by omega) (e := e) (r := r) (q := q) hn1 hn2 hS19 (w := w18) x29 v31 (kc := 0) (ks := 0)) (by omega) (st := []) (Nat.le_of_ble_eq_true rfl) rfl (kr_P fun v33 hv33 => ?_) kx_I
                  refine J_istore (pc := 63) dX3_spread_63 (by decide) rfl ?_
                  show J X mX3_spread d kc ks 65 [some (.ref 14), some (.ref 1), some (.int a), some (.int z3), some (.int (nI c4)), some (.int v33)] [] w18 _
                  refine J_aload_n (pc := 65) dX3_spread_65 rfl rfl rfl ?_
                  refine J_get (pc := 66) (k := 0) dX3_spread_66 kC4 (by decide) ff_X3_14 hc30 rfl ?_
                  refine J_iload (pc := 69) dX3_spread_69 rfl ?_
                  refine J_iload (pc := 71) dX3_spread_71 rfl ?_
                  refine J_callV0 (pc := 73) (M := mX3_spread) (as := [.int v33, .int v33]) dX3_spread_73 fw_X1_add fl_X3_40 fm_X1_add fe_X1_add hc32 (by decide) rfl rfl rfl (c_X1_add_at15 hs (d := d - 1) (by omega) (e := e) (r := r) (q := q) hn1 hn2 hS19 (w := w18) v33 v33 (kc := 0) (ks := 0)) (by omega) (st := []) (Nat.le_of_ble_eq_true rfl) rfl (kr_I fun v34 w34 hv34 hw34 => ?_) kx_I
                  obtain ⟨k34, rfl, hk34⟩ := hv34
                  obtain ⟨hS34, hF34⟩ := hw34
                  have hG34 := hG20.tr hF34
                  refine J_pop (pc := 76) dX3_spread_76 rfl ?_
                  refine J_iincN (pc := 77) (b := 1) dX3_spread_77 rfl (by decide) (by decide) rfl ?_
                  show J X mX3_spread d kc ks 80 [some (.ref 14), some (.ref 1), some (.int a), some (.int z3), some (.int (nI (c4 + 1))), some (.int v33)] [] w34 _
                  refine J_goto (pc := 80) (tgt := 31) dX3_spread_80 (by decide) ?_
                  exact J_sub (L' := [some (.ref 14), some (.ref 1), some (.int a), some (.int z3), some (.int (nI (c4 + 1))), none]) ⟨rfl, ⟨rfl, ⟨rfl, ⟨rfl, ⟨rfl, trivial⟩⟩⟩⟩⟩ (ihlp31_17 w34 (c4 + 1) hS34 hG34 (by first | assumption | omega) (by omega))
          exact J_sub (L' := [some (.ref 14), some (.ref 1), some (.int a), some (.int z3), some (.int (nI 0)), none]) ⟨rfl, ⟨rfl, ⟨rfl, ⟨rfl, ⟨rfl, trivial⟩⟩⟩⟩⟩ (lp31_17 _ w6 0 hS7 hG8 (by first | assumption | omega) (Nat.lt_succ_self _))
  exact J_sub (L' := [some (.ref 14), some (.ref 1), some (.int a), some (.int x4), none, none]) ⟨rfl, ⟨rfl, ⟨rfl, ⟨rfl, trivial⟩⟩⟩⟩ (lp10_5 _ w x4 hS hG (Nat.lt_succ_self _))
set_option maxRecDepth 100000 in
set_option maxHeartbeats 4000000 in
theorem c_X3_colouringsOneByOne {X : jX} (hs : X.1.stackTraces = false) {d : Nat} (hd : 3 ≤ d) {n : Nat} {e r q : Int32} (hn1 : 2 ≤ n) (hn2 : n ≤ 7) {w : List jC} (hS : SH (rX n e r q) w) (a : Int32) (b : Nat) (hy0 : 1 ≤ b) (hy1 : b ≤ 3) {kc ks : Nat} : jMet X mX3_colouringsOneByOne d kc ks [.ref 14, .ref 1, .int a, .int (nI b), .int (nI n)] w (pI (fun _ => True) (fun w' => rS n e r q w w')) := by
  refine jMet_of hs (by decide +kernel) (Nat.le_of_ble_eq_true rfl) (L := [some (.ref 14), some (.ref 1), some (.int a), some (.int (nI b)), some (.int (nI n)), none, none, none]) rfl ?_
  have hG : Fr kX w w := Fr.rf
  refine J_aload_n (pc := 0) dX3_colouringsOneByOne_0 rfl rfl rfl ?_
  refine J_iload_n (pc := 1) dX3_colouringsOneByOne_1 rfl rfl ?_
  obtain ⟨_, hc1, ka1, kb1, rfl, hb1_0, hb1_1, hb1_2⟩ := hS 14 _ rfl
  refine J_putS (pc := 2) (k := 2) kX dX3_colouringsOneByOne_2 kC4 (by decide) ff_X3_26 (Or.inl rfl) ⟨rfl, rfl⟩ hS hc1 (Nat.le_of_ble_eq_true rfl) rfl ⟨b, kb1, rfl, (by omega), (by omega), (by omega)⟩ (by decide) (fun w2 hS2 hc2 hne2 hF2 => ?_)
  have hG2 := hG.tr hF2
  refine J_aload_n (pc := 5) dX3_colouringsOneByOne_5 rfl rfl rfl ?_
  refine J_iload (pc := 6) dX3_colouringsOneByOne_6 rfl ?_
  refine J_putS (pc := 8) (k := 3) kX dX3_colouringsOneByOne_8 kC4 (by decide) ff_X3_30 (Or.inl rfl) ⟨rfl, rfl⟩ hS2 hc2 (Nat.le_of_ble_eq_true rfl) rfl ⟨b, n, rfl, (by omega), (by omega), (by omega)⟩ (by decide) (fun w3 hS3 hc3 hne3 hF3 => ?_)
  have hG3 := hG2.tr hF3
  refine J_aload_n (pc := 11) dX3_colouringsOneByOne_11 rfl rfl rfl ?_
  refine J_callV0 (pc := 12) (M := mX3_colouringsOneByOne) (as := []) dX3_colouringsOneByOne_12 fw_X3_weigh fl_X3_33 fm_X3_weigh fe_X3_weigh hc3 (by decide) rfl rfl rfl (c_X3_weigh hs (d := d - 1) (by omega) (e := e) (r := r) (q := q) hn1 hn2 hS3 (w := w3)  (kc := 0) (ks := 0)) (by omega) (st := []) (Nat.le_of_ble_eq_true rfl) rfl (kr_I fun v4 w4 hv4 hw4 => ?_) kx_I
  obtain ⟨hS4, hF4⟩ := hw4
  have hG4 := hG3.tr hF4
  refine J_istore (pc := 15) dX3_colouringsOneByOne_15 (by decide) rfl ?_
  show J X mX3_colouringsOneByOne d kc ks 17 [some (.ref 14), some (.ref 1), some (.int a), some (.int (nI b)), some (.int (nI n)), some (.int v4), none, none] [] w4 _
  refine J_iconst (pc := 17) (v := nI 0) dX3_colouringsOneByOne_17 (by decide) ?_
  refine J_istore (pc := 18) dX3_colouringsOneByOne_18 (by decide) rfl ?_
  show J X mX3_colouringsOneByOne d kc ks 20 [some (.ref 14), some (.ref 1), some (.int a), some (.int (nI b)), some (.int (nI n)), some (.int v4), some (.int (nI 0)), none] [] w4 _
  refine J_aload_n (pc := 20) dX3_colouringsOneByOne_20 rfl rfl rfl ?_
  obtain ⟨_, hc5, ka5, kb5, rfl, hb5_0, hb5_1, hb5_2⟩ := hS4 14 _ rfl
  refine J_get (pc := 21) (k := 0) dX3_colouringsOneByOne_21 kC4 (by decide) ff_X3_14 hc5 rfl ?_
  obtain ⟨_, hc7, ka7, rfl, hb7_0⟩ := hS4 15 _ rfl
  refine J_callV0 (pc := 24) (M := mX3_colouringsOneByOne) (as := []) dX3_colouringsOneByOne_24 fw_X1_clear fl_X3_37 fm_X1_clear fe_X1_clear hc7 (by decide) rfl rfl rfl (c_X1_clear_at15 hs (d := d - 1) (by omega) (e := e) (r := r) (q := q) hn1 hn2 hS4 (w := w4)  (kc := 0) (ks := 0)) (by omega) (st := []) (Nat.le_of_ble_eq_true rfl) rfl (kr_V fun w6 hw6 => ?_) kx_V
  obtain ⟨hS6, hF6⟩ := hw6
  have hG6 := hG4.tr hF6
  refine J_iconst (pc := 27) (v := nI 0) dX3_colouringsOneByOne_27 (by decide) ?_
  refine J_istore (pc := 28) dX3_colouringsOneByOne_28 (by decide) rfl ?_
  show J X mX3_colouringsOneByOne d kc ks 30 [some (.ref 14), some (.ref 1), some (.int a), some (.int (nI b)), some (.int (nI n)), some (.int v4), some (.int (nI 0)), some (.int (nI 0))] [] w6 _
  have htn13 := tN_lt v4
  have lp30_8 : ∀ (fuel : Nat) (w9 : List jC) (z6 : Int32) (c7 : Nat), SH (rX n e r q) w9 → Fr kX w w9 → c7 < 2147483648 → (tN v4) - c7 < fuel → J X mX3_colouringsOneByOne d kc ks 30 [some (.ref 14), some (.ref 1), some (.int a), some (.int (nI b)), some (.int (nI n)), some (.int v4), some (.int z6), some (.int (nI c7))] [] w9 (pI (fun _ => True) (fun w' => rS n e r q w w')) := by
    intro fuellp30_8
    induction fuellp30_8 with
    | zero => intros; omega
    | succ fuellp30_8 ihlp30_8 =>
      intro w9 z6 c7 hS10 hG11 hi12 hf14
      refine J_iload (pc := 30) dX3_colouringsOneByOne_30 rfl ?_
      refine J_iload (pc := 32) dX3_colouringsOneByOne_32 rfl ?_
      refine J_icmp_geI (pc := 34) (tgt := 66) dX3_colouringsOneByOne_34 (by decide) (by omega) (fun ht15 => ?_) (fun hf16 => ?_)
      · refine J_iload (pc := 66) dX3_colouringsOneByOne_66 rfl ?_
        exact J_iret (pc := 68) dX3_colouringsOneByOne_68 rfl ⟨trivial, ⟨hS10, hG11⟩⟩
      · refine J_aload_n (pc := 37) dX3_colouringsOneByOne_37 rfl rfl rfl ?_
        obtain ⟨_, hc17, ka17, kb17, rfl, hb17_0, hb17_1, hb17_2⟩ := hS10 14 _ rfl
        refine J_get (pc := 38) (k := 0) dX3_colouringsOneByOne_38 kC4 (by decide) ff_X3_14 hc17 rfl ?_
        refine J_iload (pc := 41) dX3_colouringsOneByOne_41 rfl ?_
        refine J_iload (pc := 43) dX3_colouringsOneByOne_43 rfl ?_
        obtain ⟨_, hc19, ka19, rfl, hb19_0⟩ := hS10 15 _ rfl
        refine J_callV0 (pc := 45) (M := mX3_colouringsOneByOne) (as := [.int (nI c7), .int (nI c7)]) dX3_colouringsOneByOne_45 fw_X1_add fl_X3_40 fm_X1_add fe_X1_add hc19 (by decide) rfl rfl rfl (c_X1_add_at15 hs (d := d - 1) (by omega) (e := e) (r := r) (q := q) hn1 hn2 hS10 (w := w9) (nI c7) (nI c7) (kc := 0) (ks := 0)) (by omega) (st := []) (Nat.le_of_ble_eq_true rfl) rfl (kr_I fun v18 w18 hv18 hw18 => ?_) kx_I
        obtain ⟨k18, rfl, hk18⟩ := hv18
        obtain ⟨hS18, hF18⟩ := hw18
        have hG18 := hG11.tr hF18
        refine J_if_eqN (pc := 48) (tgt := 60) dX3_colouringsOneByOne_48 (by decide) (by omega) (fun ht20 => ?_) (fun hf21 => ?_)
        · refine J_iincN (pc := 60) (b := 1) dX3_colouringsOneByOne_60 rfl (by decide) (by decide) rfl ?_
          show J X mX3_colouringsOneByOne d kc ks 63 [some (.ref 14), some (.ref 1), some (.int a), some (.int (nI b)), some (.int (nI n)), some (.int v4), some (.int z6), some (.int (nI (c7 + 1)))] [] w18 _
          refine J_goto (pc := 63) (tgt := 30) dX3_colouringsOneByOne_63 (by decide) ?_
          exact J_sub (L' := [some (.ref 14), some (.ref 1), some (.int a), some (.int (nI b)), some (.int (nI n)), some (.int v4), some (.int z6), some (.int (nI (c7 + 1)))]) ⟨rfl, ⟨rfl, ⟨rfl, ⟨rfl, ⟨rfl, ⟨rfl, ⟨rfl, ⟨rfl, trivial⟩⟩⟩⟩⟩⟩⟩⟩ (ihlp30_8 w18 z6 (c7 + 1) hS18 hG18 (by first | assumption | omega) (by omega))
        · refine J_iinc (pc := 51) dX3_colouringsOneByOne_51 rfl rfl (by decide) rfl ?_
          generalize z6 + Int32.ofInt 1 = x22
          show J X mX3_colouringsOneByOne d kc ks 54 [some (.ref 14), some (.ref 1), some (.int a), some (.int (nI b)), some (.int (nI n)), some (.int v4), some (.int x22), some (.int (nI c7))] [] w18 _
          refine J_aload_n (pc := 54) dX3_colouringsOneByOne_54 rfl rfl rfl ?_
          refine J_aload_n (pc := 55) dX3_colouringsOneByOne_55 rfl rfl rfl ?_
          refine J_iload_n (pc := 56) dX3_colouringsOneByOne_56 rfl rfl ?_
          obtain ⟨_, hc24, ka24, kb24, rfl, hb24_0, hb24_1, hb24_2⟩ := hS18 14 _ rfl
          refine J_callV0 (pc := 57) (M := mX3_colouringsOneByOne) (as := [.ref 1, .int a]) dX3_colouringsOneByOne_57 fw_X3_spread fl_X3_44 fm_X3_spread fe_X3_spread hc24 (by decide) rfl rfl rfl (c_X3_spread hs (d := d - 1) (by omega) (e := e) (r := r) (q := q) hn1 hn2 hS18 (w := w18) a (kc := 0) (ks := 0)) (by omega) (st := []) (Nat.le_of_ble_eq_true rfl) rfl (kr_V fun w23 hw23 => ?_) kx_V
          obtain ⟨hS23, hF23⟩ := hw23
          have hG23 := hG18.tr hF23
          refine J_iincN (pc := 60) (b := 1) dX3_colouringsOneByOne_60 rfl (by decide) (by decide) rfl ?_
          show J X mX3_colouringsOneByOne d kc ks 63 [some (.ref 14), some (.ref 1), some (.int a), some (.int (nI b)), some (.int (nI n)), some (.int v4), some (.int x22), some (.int (nI (c7 + 1)))] [] w23 _
          refine J_goto (pc := 63) (tgt := 30) dX3_colouringsOneByOne_63 (by decide) ?_
          exact J_sub (L' := [some (.ref 14), some (.ref 1), some (.int a), some (.int (nI b)), some (.int (nI n)), some (.int v4), some (.int x22), some (.int (nI (c7 + 1)))]) ⟨rfl, ⟨rfl, ⟨rfl, ⟨rfl, ⟨rfl, ⟨rfl, ⟨rfl, ⟨rfl, trivial⟩⟩⟩⟩⟩⟩⟩⟩ (ihlp30_8 w23 x22 (c7 + 1) hS23 hG23 (by first | assumption | omega) (by omega))
  exact J_sub (L' := [some (.ref 14), some (.ref 1), some (.int a), some (.int (nI b)), some (.int (nI n)), some (.int v4), some (.int (nI 0)), some (.int (nI 0))]) ⟨rfl, ⟨rfl, ⟨rfl, ⟨rfl, ⟨rfl, ⟨rfl, ⟨rfl, ⟨rfl, trivial⟩⟩⟩⟩⟩⟩⟩⟩ (lp30_8 _ w6 (nI 0) 0 hS6 hG6 (by first | assumption | omega) (Nat.lt_succ_self _))
end
section
/-! still more: the lowest bit, how many bits, sets -/
def ntz4 (c m : Nat) : Nat := c + m / 2 ^ 1
def ntz3 (c m : Nat) : Nat := if 4 < m then ntz4 (c + 2) (m / 2 ^ 2) else ntz4 c m
def ntz2 (c m : Nat) : Nat := if 16 < m then ntz3 (c + 4) (m / 2 ^ 4) else ntz3 c m
def ntz1 (c m : Nat) : Nat := if 256 < m then ntz2 (c + 8) (m / 2 ^ 8) else ntz2 c m
def ntz0 (c m : Nat) : Nat := if 65536 < m then ntz1 (c + 16) (m / 2 ^ 16) else ntz1 c m
def ntz (m : Nat) : Nat := if 0 < m then ntz0 1 m else 0
theorem ntz_2 : ∀ t, t < 32 → ntz (2 ^ t - 1) = t := by decide +kernel
theorem tz_of {a : Int32} (h : ¬ a = 0) : ∃ t m : Nat, t < 32 ∧ a.toBitVec.getLsbD t = true ∧ ((a ^^^ (-1)) &&& (a - nI 1)) = nI m ∧ m < 2 ^ 31 ∧ ntz m = t := by
  have h1 : ∃ t, t < 32 ∧ a.toBitVec.getLsbD t = true := by
    refine Classical.byContradiction fun hn => h ?_
    apply Int32.toBitVec_inj.mp
    apply BitVec.eq_of_getLsbD_eq
    intro i hi
    have : ¬ a.toBitVec.getLsbD i = true := fun e => hn ⟨i, hi, e⟩
    rw [Bool.not_eq_true _ |>.mp this]
    show false = (0#32).getLsbD i
    simp
  obtain ⟨t0, ht0, hb0⟩ := h1
  obtain ⟨t, hl, ⟨ht, hb⟩, hmin⟩ := least (P := fun t => t < 32 ∧ a.toBitVec.getLsbD t = true) t0 ⟨ht0, hb0⟩
  have hm31 : 2 ^ t - 1 < 2 ^ 31 := by
    have : 2 ^ t ≤ 2 ^ 31 := Nat.pow_le_pow_right (by decide) (by omega)
    omega
  refine ⟨t, 2 ^ t - 1, ht, hb, ?_, hm31, ntz_2 t ht⟩
  apply Int32.toBitVec_inj.mp
  apply BitVec.eq_of_getLsbD_eq
  intro i hi
  have e1 : ((a ^^^ (-1)) &&& (a - nI 1)).toBitVec = (~~~ a.toBitVec) &&& (~~~ (- a.toBitVec)) := by
    rw [BitVec.not_neg]
    show (a.toBitVec ^^^ (-1#32)) &&& (a.toBitVec - 1#32) = _
    rw [show (-1#32) = BitVec.allOnes 32 by decide, BitVec.xor_allOnes]
  rw [e1]
  show _ = (BitVec.ofNat 32 (2 ^ t - 1)).getLsbD i
  rw [BitVec.getLsbD_ofNat, Nat.testBit_two_pow_sub_one, BitVec.getLsbD_and, BitVec.getLsbD_not, BitVec.getLsbD_not, BitVec.getLsbD_neg]
  simp only [hi, decide_true, Bool.true_and]
  by_cases e : i < t
  · have h0 : a.toBitVec.getLsbD i = false := Bool.not_eq_true _ |>.mp fun x => hmin i e ⟨by omega, x⟩
    have h2 : ¬ ∃ j, j < i ∧ a.toBitVec.getLsbD j = true := fun ⟨j, hj, x⟩ => hmin j (by omega) ⟨by omega, x⟩
    simp [h0, h2, e]
  · by_cases e2 : i = t
    · subst e2
      simp [hb]
    · have h2 : ∃ j, j < i ∧ a.toBitVec.getLsbD j = true := ⟨t, by omega, hb⟩
      simp only [e, decide_false]
      simp only [h2, decide_true]
      cases a.toBitVec.getLsbD i <;> rfl
theorem bitL_at {g : List Int32} {w r : Nat} (hr : r < 32) : bitL g (32 * w + r) = (g.getD w 0).toBitVec.getLsbD r := by
  unfold bitL
  rw [show (32 * w + r) / 32 = w by omega, show (32 * w + r) % 32 = r by omega]
theorem and_bits {g h : List Int32} {w r : Nat} (hw : w < 158) (hr : r < 32) (hb : (g.getD (nI w).toNatClampNeg 0 &&& (h.getD (nI w).toNatClampNeg 0 ^^^ (-1))).toBitVec.getLsbD r = true) : bitL g (32 * w + r) = true ∧ bitL h (32 * w + r) = false := by
  rw [nI_clamp (by omega)] at hb
  rw [bitL_at hr, bitL_at hr]
  have e : (g.getD w 0 &&& (h.getD w 0 ^^^ (-1))).toBitVec = (g.getD w 0).toBitVec &&& ~~~ (h.getD w 0).toBitVec := by
    show (g.getD w 0).toBitVec &&& ((h.getD w 0).toBitVec ^^^ (-1#32)) = _
    rw [show (-1#32) = BitVec.allOnes 32 by decide, BitVec.xor_allOnes]
  rw [e, BitVec.getLsbD_and, BitVec.getLsbD_not] at hb
  simp only [hr, decide_true, Bool.true_and, Bool.and_eq_true, Bool.not_eq_true'] at hb
  exact hb
theorem cz_set2 {w r : Nat} {g : List Int32} (hw : w < 158) (hl : g.length = 158) (hr : r < 32) (h : bitL g (32 * w + r) = false) : cz (g.set (nI w).toNatClampNeg (g.getD (nI w).toNatClampNeg 0 ||| nI 1 <<< (nI r &&& 31))) < cz g := by
  rw [nI_clamp (by omega)]
  unfold cz
  refine cnt_lt 5056 (fun i _ hi => ?_) (32 * w + r) (by omega) (by rw [h]; rfl) (by rw [bitL_or (by omega) hr]; simp)
  rw [bitL_or (by omega) hr] at hi
  cases e : bitL g i
  · rfl
  · rw [e] at hi
    simp at hi
theorem c0 : (nI 0).toNatClampNeg = 0 := by decide
theorem BU_1 {m : Nat} (hm : 0 < m) : BU m ((List.replicate 158 0).set (nI 0).toNatClampNeg (nI 1)) := by
  intro k hk
  rw [c0, bitL_1 (by decide)] at hk
  have := of_decide_eq_true hk
  omega
theorem bitL_10 : bitL ((List.replicate 158 0).set (nI 0).toNatClampNeg (nI 1)) 0 = true := by
  rw [c0, bitL_1 (by decide)]
  rfl
theorem en_or {e k : Nat} (he : e < 64) (hk : k < 6) : ∃ e', e' < 64 ∧ (nI e ||| (nI 1 <<< (nI k &&& 31))) = nI e' := by
  rw [pk_shlN (n := 1) _ k (sh_of (by omega)) (by rw [Nat.one_mul]; exact Nat.pow_lt_pow_right (by decide) (by omega)), Nat.one_mul]
  have h2 : 2 ^ k < 64 := by
    have : 2 ^ k < 2 ^ 6 := Nat.pow_lt_pow_right (by decide) hk
    omega
  refine ⟨e ||| 2 ^ k, Nat.or_lt_two_pow (n := 6) he h2, ?_⟩
  apply Int32.toBitVec_inj.mp
  show BitVec.ofNat 32 e ||| BitVec.ofNat 32 (2 ^ k) = BitVec.ofNat 32 (e ||| 2 ^ k)
  apply BitVec.eq_of_toNat_eq
  have h3 : e ||| 2 ^ k < 64 := Nat.or_lt_two_pow (n := 6) he h2
  rw [BitVec.toNat_or, BitVec.toNat_ofNat, BitVec.toNat_ofNat, BitVec.toNat_ofNat, Nat.mod_eq_of_lt (by omega), Nat.mod_eq_of_lt (by omega), Nat.mod_eq_of_lt (by omega)]
theorem KB_of {n s : Nat} {kn : Int32} {bt : List Int32} (h : KB n kn bt) (e : kn = nI s) (hs : s < 64) : BT n bt := by
  rcases h with h | h
  · rw [e] at h
    have h2 := nI_pos' (n := s) (by omega)
    rw [h] at h2
    exact absurd h2 (by decide)
  · exact h
theorem cnt_split (P : Nat → Bool) (a : Nat) : ∀ b, cnt P (a + b) = cnt P a + cnt (fun i => P (a + i)) b
  | 0 => rfl
  | b + 1 => by
    show cnt P (a + b) + (if P (a + b) = true then 1 else 0) = cnt P a + (cnt (fun i => P (a + i)) b + (if P (a + b) = true then 1 else 0))
    rw [cnt_split P a b]
    omega
/-- how many bits of a word are set -/
def pc32 (a : Int32) : Nat := cnt (fun i => a.toBitVec.getLsbD i) 32
theorem cnt_word (g : List Int32) {w : Nat} (hw : w < 158) : cnt (bitL g) (32 * w) + pc32 (g.getD (nI w).toNatClampNeg 0) = cnt (bitL g) (32 * (w + 1)) := by
  rw [nI_clamp (by omega), show 32 * (w + 1) = 32 * w + 32 by omega, cnt_split]
  congr 1
  exact cnt_add 32 (fun i hi => (bitL_at hi).symm)
theorem and_sp (x y : Nat) : x &&& y = (x % 256 &&& y % 256) + 256 * (x / 256 &&& y / 256) := by
  have h1 : (x &&& y) % 2 ^ 8 = x % 2 ^ 8 &&& y % 2 ^ 8 := Nat.and_mod_two_pow ..
  have h2 : (x &&& y) / 2 ^ 8 = x / 2 ^ 8 &&& y / 2 ^ 8 := Nat.and_div_two_pow ..
  have h3 := Nat.mod_add_div (x &&& y) (2 ^ 8)
  rw [h1, h2] at h3
  exact h3.symm
theorem and4 (x m : Nat) (hm : m < 256) : x &&& (m + 256 * (m + 256 * (m + 256 * m))) = (x % 256 &&& m) + 256 * ((x / 256 % 256 &&& m) + 256 * ((x / 256 / 256 % 256 &&& m) + 256 * (x / 256 / 256 / 256 % 256 &&& m))) := by
  rw [and_sp x, show (m + 256 * (m + 256 * (m + 256 * m))) % 256 = m by omega, show (m + 256 * (m + 256 * (m + 256 * m))) / 256 = m + 256 * (m + 256 * m) by omega,
    and_sp (x / 256), show (m + 256 * (m + 256 * m)) % 256 = m by omega, show (m + 256 * (m + 256 * m)) / 256 = m + 256 * m by omega,
    and_sp (x / 256 / 256), show (m + 256 * m) % 256 = m by omega, show (m + 256 * m) / 256 = m by omega,
    and_sp (x / 256 / 256 / 256) m, Nat.mod_eq_of_lt hm, Nat.div_eq_of_lt hm, Nat.and_zero]
  omega
def b1 (u : Nat) : Nat := u / 2 &&& 85
def b2 (u : Nat) : Nat := (u - b1 u &&& 51) + ((u - b1 u) / 4 &&& 51)
def b3 (u : Nat) : Nat := b2 u % 16 + b2 u / 16
theorem b1_le : ∀ u, u < 256 → b1 u ≤ u := by decide +kernel
theorem b2_le : ∀ u, u < 256 → b2 u % 16 ≤ 4 ∧ b2 u / 16 ≤ 4 := by decide +kernel
theorem b3_eq : ∀ u, u < 256 → b3 u = cnt (fun i => u.testBit i) 8 := by decide +kernel
theorem m85 : ∀ u, u < 256 → u &&& 85 = u % 128 &&& 85 := by decide +kernel
theorem m51 : ∀ u, u < 256 → u &&& 51 = u % 64 &&& 51 := by decide +kernel
theorem m15 : ∀ u, u < 256 → u &&& 15 = u % 16 := by decide +kernel
/-- the law of bitCount, over naturals -/
def bc1 (x : Nat) : Nat := x - (x / 2 ^ 1 &&& 1431655765)
def bc2 (x : Nat) : Nat := (x &&& 858993459) + (x / 2 ^ 2 &&& 858993459)
def bc3 (x : Nat) : Nat := x + x / 2 ^ 4 &&& 252645135
theorem bc_eq {a b c e : Nat} (ha : a < 256) (hb : b < 256) (hc : c < 256) (he : e < 256) :
    (a + 256 * (b + 256 * (c + 256 * e))) / 2 ^ 1 &&& 1431655765 ≤ a + 256 * (b + 256 * (c + 256 * e)) ∧
    bc3 (bc2 (bc1 (a + 256 * (b + 256 * (c + 256 * e))))) = b3 a + 256 * (b3 b + 256 * (b3 c + 256 * b3 e)) := by
  have ha1 := b1_le a ha
  have hb1 := b1_le b hb
  have hc1 := b1_le c hc
  have he1 := b1_le e he
  have h1 : (a + 256 * (b + 256 * (c + 256 * e))) / 2 ^ 1 &&& 1431655765 = b1 a + 256 * (b1 b + 256 * (b1 c + 256 * b1 e)) := by
    rw [show (1431655765 : Nat) = 85 + 256 * (85 + 256 * (85 + 256 * 85)) by decide, and4 _ 85 (by decide)]
    generalize hx : (a + 256 * (b + 256 * (c + 256 * e))) / 2 ^ 1 = x
    have g1 : x % 256 &&& 85 = b1 a := by rw [m85 _ (by omega)]; unfold b1; rw [m85 (a / 2) (by omega)]; congr 1; omega
    have g2 : x / 256 % 256 &&& 85 = b1 b := by rw [m85 _ (by omega)]; unfold b1; rw [m85 (b / 2) (by omega)]; congr 1; omega
    have g3 : x / 256 / 256 % 256 &&& 85 = b1 c := by rw [m85 _ (by omega)]; unfold b1; rw [m85 (c / 2) (by omega)]; congr 1; omega
    have g4 : x / 256 / 256 / 256 % 256 &&& 85 = b1 e := by rw [m85 _ (by omega)]; unfold b1; rw [m85 (e / 2) (by omega)]; congr 1; omega
    rw [g1, g2, g3, g4]
  have h1b : bc1 (a + 256 * (b + 256 * (c + 256 * e))) = (a - b1 a) + 256 * ((b - b1 b) + 256 * ((c - b1 c) + 256 * (e - b1 e))) := by
    unfold bc1
    rw [h1]
    omega
  refine ⟨by rw [h1]; omega, ?_⟩
  rw [h1b]
  have ka := b2_le a ha
  have kb := b2_le b hb
  have kc := b2_le c hc
  have ke := b2_le e he
  have h2 : bc2 ((a - b1 a) + 256 * ((b - b1 b) + 256 * ((c - b1 c) + 256 * (e - b1 e)))) = b2 a + 256 * (b2 b + 256 * (b2 c + 256 * b2 e)) := by
    unfold bc2
    rw [show (858993459 : Nat) = 51 + 256 * (51 + 256 * (51 + 256 * 51)) by decide, and4 _ 51 (by decide), and4 _ 51 (by decide)]
    generalize hy : (a - b1 a) + 256 * ((b - b1 b) + 256 * ((c - b1 c) + 256 * (e - b1 e))) = y
    generalize hx : y / 2 ^ 2 = x
    have f1 : y % 256 = a - b1 a := by omega
    have f2 : y / 256 % 256 = b - b1 b := by omega
    have f3 : y / 256 / 256 % 256 = c - b1 c := by omega
    have f4 : y / 256 / 256 / 256 % 256 = e - b1 e := by omega
    have g1 : x % 256 &&& 51 = (a - b1 a) / 4 &&& 51 := by rw [m51 _ (by omega), m51 ((a - b1 a) / 4) (by omega)]; congr 1; omega
    have g2 : x / 256 % 256 &&& 51 = (b - b1 b) / 4 &&& 51 := by rw [m51 _ (by omega), m51 ((b - b1 b) / 4) (by omega)]; congr 1; omega
    have g3 : x / 256 / 256 % 256 &&& 51 = (c - b1 c) / 4 &&& 51 := by rw [m51 _ (by omega), m51 ((c - b1 c) / 4) (by omega)]; congr 1; omega
    have g4 : x / 256 / 256 / 256 % 256 &&& 51 = (e - b1 e) / 4 &&& 51 := by rw [m51 _ (by omega), m51 ((e - b1 e) / 4) (by omega)]; congr 1; omega
    rw [g1, g2, g3, g4, f1, f2, f3, f4]
    unfold b2
    omega
  rw [h2]
  unfold bc3
  rw [show (252645135 : Nat) = 15 + 256 * (15 + 256 * (15 + 256 * 15)) by decide, and4 _ 15 (by decide)]
  generalize hy : b2 a + 256 * (b2 b + 256 * (b2 c + 256 * b2 e)) = y
  generalize hx : y + y / 2 ^ 4 = x
  obtain ⟨p0, h0⟩ : ∃ p, p = b2 a + b2 a / 16 + 16 * (b2 b % 16) := ⟨_, rfl⟩
  obtain ⟨p1, h1'⟩ : ∃ p, p = b2 b + b2 b / 16 + 16 * (b2 c % 16) := ⟨_, rfl⟩
  obtain ⟨p2, h2'⟩ : ∃ p, p = b2 c + b2 c / 16 + 16 * (b2 e % 16) := ⟨_, rfl⟩
  obtain ⟨p3, h3'⟩ : ∃ p, p = b2 e + b2 e / 16 := ⟨_, rfl⟩
  have hx' : x = p0 + 256 * (p1 + 256 * (p2 + 256 * p3)) := by
    have e1 : y / 2 ^ 4 = b2 a / 16 + 16 * (b2 b % 16) + 256 * (b2 b / 16 + 16 * (b2 c % 16) + 256 * (b2 c / 16 + 16 * (b2 e % 16) + 256 * (b2 e / 16))) := by
      have t1 : y / 2 ^ 4 = b2 a / 16 + 16 * (b2 b + 256 * (b2 c + 256 * b2 e)) := by omega
      rw [t1]
      omega
    rw [← hx, e1, ← hy]
    omega
  clear hx hy
  unfold b3
  have q1 : x % 256 = p0 := by omega
  have q2 : x / 256 = p1 + 256 * (p2 + 256 * p3) := by omega
  have q3 : (p1 + 256 * (p2 + 256 * p3)) % 256 = p1 := by omega
  have q4 : (p1 + 256 * (p2 + 256 * p3)) / 256 = p2 + 256 * p3 := by omega
  have q5 : (p2 + 256 * p3) % 256 = p2 := by omega
  have q6 : (p2 + 256 * p3) / 256 = p3 := by omega
  have q7 : p3 % 256 = p3 := by omega
  rw [q1, q2, q3, q4, q5, q6, q7, m15 p0 (by omega), m15 p1 (by omega), m15 p2 (by omega), m15 p3 (by omega)]
  have r0 : p0 % 16 = b2 a % 16 + b2 a / 16 := by omega
  have r1 : p1 % 16 = b2 b % 16 + b2 b / 16 := by omega
  have r2 : p2 % 16 = b2 c % 16 + b2 c / 16 := by omega
  have r3 : p3 % 16 = b2 e % 16 + b2 e / 16 := by omega
  rw [r0, r1, r2, r3]
theorem cnt8 (x : Nat) (k : Nat) : cnt (fun i => x.testBit (k + i)) 8 = cnt (fun i => (x / 2 ^ k % 256).testBit i) 8 := by
  refine cnt_add 8 (fun i hi => ?_)
  show x.testBit (k + i) = (x / 2 ^ k % 2 ^ 8).testBit i
  rw [Nat.testBit_mod_two_pow, Nat.testBit_div_two_pow]
  simp only [hi, decide_true, Bool.true_and]
  rw [Nat.add_comm]
theorem bc_all {x : Nat} (hx : x < 2 ^ 32) : (x / 2 ^ 1 &&& 1431655765) ≤ x ∧ ∃ y, bc3 (bc2 (bc1 x)) = y ∧ y < 2 ^ 28 ∧ (y + y / 2 ^ 8 + (y + y / 2 ^ 8) / 2 ^ 16) % 64 = cnt (fun i => x.testBit i) 32 := by
  obtain ⟨h1, h2⟩ := bc_eq (a := x % 256) (b := x / 256 % 256) (c := x / 256 / 256 % 256) (e := x / 256 / 256 / 256) (by omega) (by omega) (by omega) (by omega)
  have hx4 : x % 256 + 256 * (x / 256 % 256 + 256 * (x / 256 / 256 % 256 + 256 * (x / 256 / 256 / 256))) = x := by omega
  rw [hx4] at h1 h2
  have s1 : cnt (fun i => x.testBit i) 32 = b3 (x % 256) + b3 (x / 256 % 256) + b3 (x / 256 / 256 % 256) + b3 (x / 256 / 256 / 256) := by
    have e0 := cnt8 x 0
    have e1 := cnt8 x 8
    have e2 := cnt8 x 16
    have e3 := cnt8 x 24
    have t1 := cnt_split (fun i => x.testBit i) 24 8
    have t2 := cnt_split (fun i => x.testBit i) 16 8
    have t3 := cnt_split (fun i => x.testBit i) 8 8
    rw [b3_eq _ (by omega), b3_eq _ (by omega), b3_eq _ (by omega), b3_eq _ (by omega)]
    have p1 : x / 2 ^ 8 = x / 256 := rfl
    have p2 : x / 2 ^ 16 = x / 256 / 256 := by omega
    have p3 : x / 2 ^ 24 % 256 = x / 256 / 256 / 256 := by omega
    rw [p1] at e1
    rw [p2] at e2
    rw [p3] at e3
    rw [← e1, ← e2, ← e3]
    have e0' : cnt (fun i => x.testBit i) 8 = cnt (fun i => (x % 256).testBit i) 8 := by
      have : (fun i => x.testBit (0 + i)) = fun i => x.testBit i := by
        funext i
        rw [Nat.zero_add]
      rw [this] at e0
      simpa using e0
    rw [← e0']
    show cnt (fun i => x.testBit i) (24 + 8) = _
    rw [t1]
    show cnt (fun i => x.testBit i) (16 + 8) + _ = _
    rw [t2]
    show cnt (fun i => x.testBit i) (8 + 8) + _ + _ = _
    rw [t3]
  have k0 : b3 (x % 256) ≤ 8 := by have := b2_le (x % 256) (by omega); unfold b3; omega
  have k1 : b3 (x / 256 % 256) ≤ 8 := by have := b2_le (x / 256 % 256) (by omega); unfold b3; omega
  have k2 : b3 (x / 256 / 256 % 256) ≤ 8 := by have := b2_le (x / 256 / 256 % 256) (by omega); unfold b3; omega
  have k3 : b3 (x / 256 / 256 / 256) ≤ 8 := by have := b2_le (x / 256 / 256 / 256) (by omega); unfold b3; omega
  refine ⟨h1, _, h2, by omega, ?_⟩
  rw [s1]
  generalize b3 (x % 256) = p0 at *
  generalize b3 (x / 256 % 256) = p1 at *
  generalize b3 (x / 256 / 256 % 256) = p2 at *
  generalize b3 (x / 256 / 256 / 256) = p3 at *
  have e1 : (p0 + 256 * (p1 + 256 * (p2 + 256 * p3))) / 2 ^ 8 = p1 + 256 * (p2 + 256 * p3) := by omega
  rw [e1]
  have e2 : (p0 + 256 * (p1 + 256 * (p2 + 256 * p3)) + (p1 + 256 * (p2 + 256 * p3))) / 2 ^ 16 = p2 + p3 + 256 * p3 := by omega
  rw [e2]
  omega
theorem pc32_nI {x : Nat} (hx : x < 2 ^ 32) : pc32 (nI x) = cnt (fun i => x.testBit i) 32 := by
  unfold pc32
  refine cnt_add 32 (fun i hi => ?_)
  show (BitVec.ofNat 32 x).getLsbD i = x.testBit i
  rw [BitVec.getLsbD_ofNat]
  simp [hi]
theorem nI_self (a : Int32) : a = nI a.toBitVec.toNat := by
  apply Int32.toBitVec_inj.mp
  show a.toBitVec = BitVec.ofNat 32 a.toBitVec.toNat
  simp
theorem and_nI {a b : Nat} (ha : a < 2 ^ 32) (hb : b < 2 ^ 32) : nI a &&& nI b = nI (a &&& b) := by
  apply Int32.toBitVec_inj.mp
  show BitVec.ofNat 32 a &&& BitVec.ofNat 32 b = BitVec.ofNat 32 (a &&& b)
  apply BitVec.eq_of_toNat_eq
  have h3 : a &&& b < 2 ^ 32 := Nat.and_lt_two_pow a hb
  rw [BitVec.toNat_and, BitVec.toNat_ofNat, BitVec.toNat_ofNat, BitVec.toNat_ofNat, Nat.mod_eq_of_lt ha, Nat.mod_eq_of_lt hb, Nat.mod_eq_of_lt h3]
section JREF2
variable {X : jX} {M : jM} {d kc ks pc : Nat} {L : List (Option Value)} {st : List Value} {w : List jC} {Q : jQ}
theorem J_iushrM {a s : Nat} (hdg : decode M.2.1 pc = .ok (.iushr, 1)) (ha : a < 2 ^ 32) (hs : (((nI s).toUInt32 &&& Int32.toUInt32 31).toBitVec % 32).toNat = s) (k : J X M d kc ks (pc + 1) L (.int (nI (a / 2 ^ s)) :: st) w Q) : J X M d kc ks pc L (.int (nI s) :: .int (nI a) :: st) w Q :=
  J_iushr hdg (by
    rw [pk_ushrN ha _ s hs]
    exact k)
theorem J_iandM {a m : Nat} (hdg : decode M.2.1 pc = .ok (.iand, 1)) (ha : a < 2 ^ 32) (hm : m < 2 ^ 32) (k : J X M d kc ks (pc + 1) L (.int (nI (a &&& m)) :: st) w Q) : J X M d kc ks pc L (.int (nI m) :: .int (nI a) :: st) w Q :=
  J_iand hdg (by
    rw [and_nI ha hm]
    exact k)
end JREF2
end
section
/-! moves: what keeps permutations -/
theorem PM_st {n c : Nat} {mv' mv its : Nat → Nat} (hn : n ≤ 7) (e : mv' = stM mv c n its) (h : PM n mv) (hi : Pn n its) : PM n mv' := by
  rw [e]
  exact stM_PM hn h hi
theorem Pn_row {n num : Nat} {r : Nat → Nat} (hn : 1 ≤ n) (e : ∀ p, p < n → r p = rwF n num p) : Pn n r := (rwF_Pn hn).congr e
theorem Pn_z {n : Nat} {f : Nat → Nat} (h : Pn n f) : Pn n (fun p => f (0 + p)) := h.congr (fun p _ => by rw [Nat.zero_add])
theorem Pn_swap {n u v : Nat} {r : Nat → Nat} (e : ∀ p, p < n → r p = p) (hu : u < n) (hv : v < n) : Pn n (up (up r u v) v u) := by
  refine ⟨fun p hp => ?_, fun p q hp hq x => ?_⟩
  · have := e p hp
    simp only [up]
    (repeat' split) <;> omega
  · have := e p hp
    have := e q hq
    simp only [up] at x
    (repeat' split at x) <;> omega
theorem Pn_ring {n u v t : Nat} {r : Nat → Nat} (e : ∀ p, p < n → r p = p) (hu : u < n) (hv : v < n) (ht : t < n) (h1 : ¬ u = v) (h2 : ¬ u = t) (h3 : ¬ v = t) : Pn n (up (up (up r u v) v t) t u) := by
  refine ⟨fun p hp => ?_, fun p q hp hq x => ?_⟩
  · have := e p hp
    simp only [up]
    (repeat' split) <;> omega
  · have := e p hp
    have := e q hq
    simp only [up] at x
    (repeat' split at x) <;> omega
theorem rot_mod {n p T : Nat} (hp : p < n) : (p + T) % n = if p + T % n < n then p + T % n else p + T % n - n := by
  have hn : 0 < n := by omega
  have hT := Nat.mod_lt T hn
  rw [← Nat.add_mod_mod]
  split
  · exact Nat.mod_eq_of_lt (by assumption)
  · rw [Nat.mod_eq_sub_mod (by omega)]
    exact Nat.mod_eq_of_lt (by omega)
theorem Pn_rot {n T : Nat} {r : Nat → Nat} (_ : 0 < n) (e : ∀ p, p < n → r p = (p + T) % n) : Pn n r := by
  refine ⟨fun p hp => by rw [e p hp]; exact Nat.mod_lt _ (by omega), fun p q hp hq x => ?_⟩
  have hT := Nat.mod_lt T (show 0 < n by omega)
  rw [e p hp, e q hq, rot_mod hp, rot_mod hq] at x
  split at x <;> split at x <;> omega
theorem Pn_rev {n : Nat} {r : Nat → Nat} (e : ∀ p, p < n → r p = n - 1 - p) : Pn n r := by
  refine ⟨fun p hp => by rw [e p hp]; omega, fun p q hp hq x => ?_⟩
  rw [e p hp, e q hq] at x
  omega
def sw (mv : Nat → Nat) (u v m : Nat) : Nat → Nat := fun i => if u * 7 ≤ i ∧ i < u * 7 + m then mv (i - u * 7 + v * 7) else if v * 7 ≤ i ∧ i < v * 7 + m then mv (i - v * 7 + u * 7) else mv i
theorem sw_0 (mv : Nat → Nat) (u v : Nat) : sw mv u v 0 = mv := by
  funext i
  unfold sw
  rw [if_neg (by omega), if_neg (by omega)]
theorem sw_u {mv : Nat → Nat} {u v m : Nat} (hm : m < 7) : sw mv u v m (u * 7 + m) = mv (u * 7 + m) := by
  unfold sw
  rw [if_neg (by omega), if_neg (by omega)]
theorem sw_v {mv : Nat → Nat} {u v m : Nat} (hm : m < 7) : sw mv u v m (v * 7 + m) = mv (v * 7 + m) := by
  unfold sw
  rw [if_neg (by omega), if_neg (by omega)]
theorem sw_s {mv : Nat → Nat} {u v m : Nat} (_ : u < 6) (_ : v < 6) (hm : m < 7) : up (up (sw mv u v m) (u * 7 + m) (sw mv u v m (v * 7 + m))) (v * 7 + m) (sw mv u v m (u * 7 + m)) = sw mv u v (m + 1) := by
  rw [sw_u hm, sw_v hm]
  funext i
  by_cases e1 : i = v * 7 + m
  · rw [e1, up_s]
    unfold sw
    by_cases e2 : u = v
    · subst e2
      rw [if_pos (by omega), show u * 7 + m - u * 7 + u * 7 = u * 7 + m by omega]
    · rw [if_neg (by omega), if_pos (by omega), show v * 7 + m - v * 7 + u * 7 = u * 7 + m by omega]
  · rw [up_n e1]
    by_cases e2 : i = u * 7 + m
    · rw [e2, up_s]
      unfold sw
      rw [if_pos (by omega), show u * 7 + m - u * 7 + v * 7 = v * 7 + m by omega]
    · rw [up_n e2]
      unfold sw
      by_cases g : u * 7 ≤ i ∧ i < u * 7 + m
      · rw [if_pos g, if_pos (by omega)]
      · rw [if_neg g, if_neg (show ¬ (u * 7 ≤ i ∧ i < u * 7 + (m + 1)) by omega)]
        by_cases g2 : v * 7 ≤ i ∧ i < v * 7 + m
        · rw [if_pos g2, if_pos (by omega)]
        · rw [if_neg g2, if_neg (by omega)]
theorem PM_sw {n u v c : Nat} {mv' mv : Nat → Nat} (hn : n ≤ 7) (e : mv' = sw mv u v c) (h : PM n mv) (hu : u < 6) (hv : v < 6) (hc : c = n) : PM n mv' := by
  subst e
  subst hc
  intro k hk
  by_cases e1 : k = u
  · subst e1
    refine (h v hv).congr (fun p hp => ?_)
    show sw mv k v c (k * 7 + p) = mv (v * 7 + p)
    unfold sw
    rw [if_pos (by omega), show k * 7 + p - k * 7 + v * 7 = v * 7 + p by omega]
  · by_cases e2 : k = v
    · subst e2
      refine (h u hu).congr (fun p hp => ?_)
      show sw mv u k c (k * 7 + p) = mv (u * 7 + p)
      unfold sw
      rw [if_neg (by omega), if_pos (by omega), show k * 7 + p - k * 7 + u * 7 = u * 7 + p by omega]
    · refine (h k hk).congr (fun p hp => ?_)
      show sw mv u v c (k * 7 + p) = mv (k * 7 + p)
      unfold sw
      rw [if_neg (by omega), if_neg (by omega)]
theorem int_of {c : Int32} {b : Nat} (hb : b < 100000) (h1 : -(b : Int) ≤ c.toInt) (h2 : c.toInt ≤ b) : ∃ k : Nat, k ≤ 2 * b ∧ c = nI k - nI b := by
  refine ⟨(c.toInt + b).toNat, by omega, ?_⟩
  apply Int32.toInt_inj.mp
  rw [pk_sub_toInt (by omega) (by omega)]
  omega
theorem ng_nI {m : Nat} (hm : m < 2 ^ 31) : (-(nI m)).toInt = -(m : Int) := by
  rw [Int32.toInt_neg, nI_toInt hm]
  exact Int.bmod_eq_of_le (by omega) (by omega)
theorem dv_ng {m K : Nat} (hm : m < 2 ^ 30) (h1 : 1 ≤ K) (h2 : K ≤ 7) : -(nI m) / nI K = -(nI (m / K)) := by
  have hne : nI K ≠ -1 := fun e => by
    have h := congrArg Int32.toInt e
    rw [nI_toInt (by omega), show (-1 : Int32).toInt = -1 by decide] at h
    omega
  have hq := Nat.div_le_self m K
  apply Int32.toInt_inj.mp
  rw [Int32.toInt_div_of_ne_right _ _ hne, ng_nI (by omega), ng_nI (by omega), nI_toInt (by omega), Int.neg_tdiv]
  rfl
theorem pw_0 {m K : Nat} (hm : m < 2 ^ 30) (h1 : 1 ≤ K) (h2 : K ≤ 7) : nI m / nI K = nI (m / K) := by
  have h := dv_ng hm h1 h2
  have hne : nI K ≠ -1 := fun e => by
    have h := congrArg Int32.toInt e
    rw [nI_toInt (by omega), show (-1 : Int32).toInt = -1 by decide] at h
    omega
  have hq := Nat.div_le_self m K
  apply Int32.toInt_inj.mp
  rw [Int32.toInt_div_of_ne_right _ _ hne, nI_toInt (by omega), nI_toInt (by omega), nI_toInt (by omega)]
  rfl
theorem pw_r {a K : Nat} (ha : a < 2 ^ 30) (h1 : 1 ≤ K) (h2 : K ≤ 7) : nI a - nI a / nI K * nI K = nI (a % K) := by
  have h3 := Nat.div_mul_le_self a K
  rw [pw_0 ha h1 h2, pk_mul, pk_sub h3]
  congr 1
  have h4 := Nat.div_add_mod a K
  rw [Nat.mul_comm] at h4
  omega
theorem pw_n {m K : Nat} (hm : m < 2 ^ 30) (h1 : 1 ≤ K) (h2 : K ≤ 7) : (-(nI m) - -(nI m) / nI K * nI K) + nI K = nI (K - m % K) := by
  have h5 := Nat.mod_lt m (show 0 < K by omega)
  have h6 := pw_r hm h1 h2
  rw [dv_ng hm h1 h2, ← pk_sub (Nat.le_of_lt h5), ← h6, pw_0 hm h1 h2]
  grind
theorem pow_d : ∀ K, K < 8 → 1 ≤ K → ∀ i, i < 41 → ∀ j, j < 50 →
    (((nI (50 * i + j) - nI 1000) - (nI (50 * i + j) - nI 1000) / nI K * nI K) + nI K) - (((nI (50 * i + j) - nI 1000) - (nI (50 * i + j) - nI 1000) / nI K * nI K) + nI K) / nI K * nI K = nI ((50 * i + j + 260) % K) := by
  intro K hK h1 i hi j hj
  generalize hk : 50 * i + j = k
  have hk2 : k < 2050 := by omega
  by_cases q : 1000 ≤ k
  · rw [pk_sub q, pw_r (by omega) h1 (by omega), nI_add, pw_r (by have := Nat.mod_lt (k - 1000) (show 0 < K by omega); omega) h1 (by omega)]
    refine congrArg nI (show ((k - 1000) % K + K) % K = (k + 260) % K from ?_)
    rcases (show K = 1 ∨ K = 2 ∨ K = 3 ∨ K = 4 ∨ K = 5 ∨ K = 6 ∨ K = 7 by omega) with e | e | e | e | e | e | e <;> subst e <;> omega
  · have e : nI k - nI 1000 = -(nI (1000 - k)) := by
      rw [← pk_sub (show k ≤ 1000 by omega)]
      grind
    rw [e, pw_n (by omega) h1 (by omega), pw_r (by omega) h1 (by omega)]
    refine congrArg nI (show (K - (1000 - k) % K) % K = (k + 260) % K from ?_)
    rcases (show K = 1 ∨ K = 2 ∨ K = 3 ∨ K = 4 ∨ K = 5 ∨ K = 6 ∨ K = 7 by omega) with e | e | e | e | e | e | e <;> subst e <;> omega
theorem sh_900 (m : Nat) : nI (m + 900) - nI 1000 = nI m - nI 100 := by
  have h1 : nI (m + 900) = nI m + nI 900 := (nI_add _ _).symm
  have h2 : nI 1000 = nI 100 + nI 900 := by decide
  rw [h1, h2]
  grind
theorem sh_p (p k : Nat) : nI p + (nI k - nI 100) = nI (p + k) - nI 100 := by
  have h1 : nI (p + k) = nI p + nI k := (nI_add _ _).symm
  rw [h1]
  grind
theorem turn_d : ∀ n, n < 8 → 2 ≤ n → ∀ p, p < 7 → ∀ k, k < 201 →
    (((nI p + (nI k - nI 100)) - (nI p + (nI k - nI 100)) / nI n * nI n) + nI n) - (((nI p + (nI k - nI 100)) - (nI p + (nI k - nI 100)) / nI n * nI n) + nI n) / nI n * nI n = nI ((p + (k + 100 * n - 100)) % n) := by
  intro n hn hn2 p hp k hk
  have h := pow_d n hn (by omega) ((p + k + 900) / 50) (by omega) ((p + k + 900) % 50) (by omega)
  rw [show 50 * ((p + k + 900) / 50) + (p + k + 900) % 50 = p + k + 900 by omega, sh_900, ← sh_p] at h
  rw [h]
  congr 1
  rcases (show n = 2 ∨ n = 3 ∨ n = 4 ∨ n = 5 ∨ n = 6 ∨ n = 7 by omega) with e | e | e | e | e | e <;> subst e <;> omega
theorem turn_T {n : Nat} (hn1 : 2 ≤ n) (hn2 : n ≤ 7) {c : Int32} (h1 : (-100) ≤ c) (h2 : c ≤ nI 100) : ∃ T : Nat, ∀ p, p < n →
    (((nI p + c) - (nI p + c) / nI n * nI n) + nI n) - (((nI p + c) - (nI p + c) / nI n * nI n) + nI n) / nI n * nI n = nI ((p + T) % n) := by
  obtain ⟨k, hk, rfl⟩ := int_of (c := c) (b := 100) (by decide) (by have := Int32.le_iff_toInt_le.mp h1; have e : (-100 : Int32).toInt = -100 := (by decide); omega) (by have := Int32.le_iff_toInt_le.mp h2; rw [nI_toInt (by decide)] at this; exact this)
  exact ⟨k + 100 * n - 100, fun p hp => turn_d n (by omega) hn1 p (by omega) k (by omega)⟩
theorem pow_T {c : Int32} (h1 : (-1000) ≤ c) (h2 : c ≤ nI 1000) : ∃ T : Nat, ∀ K, 1 ≤ K → K ≤ 7 → ((c - c / nI K * nI K) + nI K) - ((c - c / nI K * nI K) + nI K) / nI K * nI K = nI (T % K) := by
  obtain ⟨k, hk, rfl⟩ := int_of (c := c) (b := 1000) (by decide) (by have := Int32.le_iff_toInt_le.mp h1; have e : (-1000 : Int32).toInt = -1000 := (by decide); omega) (by have := Int32.le_iff_toInt_le.mp h2; rw [nI_toInt (by decide)] at this; exact this)
  refine ⟨k + 260, fun K hK1 hK2 => ?_⟩
  have := pow_d K (by omega) hK1 (k / 50) (by omega) (k % 50) (by omega)
  rw [show 50 * (k / 50) + k % 50 = k by omega] at this
  exact this
/-- a measure of the walk from one to the next -/
def mu (F c : Nat) : Nat := if c = 0 then 0 else F + 1 - c
theorem mu_dec {F c c' f : Nat} (h : mu F c < f + 1) (hc : 1 ≤ c) (hF : c ≤ F) (h' : c' = 0 ∨ (c < c' ∧ c' ≤ F)) : mu F c' < f := by
  unfold mu at *
  rw [if_neg (by omega)] at h
  split <;> omega
end
section
/-! powers, counts of the found, parts -/
theorem pw_le2 {e k : Nat} (he : e ≤ 3) (hk : k ≤ 7) : e ^ k ≤ 2187 :=
  Nat.le_trans (Nat.pow_le_pow_left he k) (Nat.le_trans (Nat.pow_le_pow_right (by decide) hk) (by decide))
theorem pw_le {e n : Nat} (he : e ≤ 3) (hn : n ≤ 7) : e ^ n ≤ 2187 := pw_le2 he hn
theorem pw_step {e n c y d : Nat} (h : y < e ^ (n - c)) (hd : d < e) (h1 : 1 ≤ c) (h2 : c ≤ n) : y * e + d < e ^ (n - c + 1) := by
  rw [Nat.pow_succ]
  have h3 : (y + 1) * e ≤ e ^ (n - c) * e := Nat.mul_le_mul_right e h
  rw [Nat.add_mul, Nat.one_mul] at h3
  omega
theorem col_all {n e : Nat} {f g : Nat → Nat} (hf : Pn n f) (h : ∀ p, p < n → g (f p) < e) : ∀ v, v < n → g v < e := by
  intro v hv
  obtain ⟨p, hp, rfl⟩ := inj_surj n f hf v hv
  exact h p hp
theorem cnt_up1 {P : Nat → Nat} {K j : Nat} (hj : j < K) (h : ¬ P j = 1) : cnt (fun i => P i == 1) K < cnt (fun i => up P j 1 i == 1) K ∧ cnt (fun i => P i == 1) K < K := by
  have h1 : (P j == 1) = false := beq_eq_false_iff_ne.mpr h
  constructor
  · refine cnt_lt K (fun i _ hi => ?_) j hj (by rw [up_s]; rfl) h1
    by_cases e : i = j
    · rw [e, up_s]; rfl
    · rw [up_n e]; exact hi
  · have h2 : cnt (fun i => P i == 1) K < cnt (fun _ => true) K := cnt_lt K (fun i _ _ => rfl) j hj rfl h1
    exact Nat.lt_of_lt_of_le h2 (cnt_le _ _)
def jn (r : Nat → Nat) (a c p : Nat) : Nat := if r p = r c then r a else r p
/-- how many parts -/
def Dn (n : Nat) (r : Nat → Nat) : Nat := cnt (fun v => decide (∃ p, p < n ∧ r p = v)) 7
theorem Dn_join {n a c : Nat} {r r' : Nat → Nat} (h : ∀ p, p < n → r' p = jn r a c p) (ha : a < n) (hc : c < n) (hr : ∀ p, r p < 7) (hne : ¬ r a = r c) : Dn n r' < Dn n r := by
  unfold Dn
  refine cnt_lt 7 (fun v _ hv => ?_) (r c) (hr c) (decide_eq_true ⟨c, hc, rfl⟩) (decide_eq_false ?_)
  · obtain ⟨p, hp, e⟩ := of_decide_eq_true hv
    rw [h p hp] at e
    unfold jn at e
    split at e
    · exact decide_eq_true ⟨a, ha, e⟩
    · exact decide_eq_true ⟨p, hp, e⟩
  · rintro ⟨p, hp, e⟩
    rw [h p hp] at e
    unfold jn at e
    split at e
    · exact hne e
    · rename_i g
      exact g e
end
section
/-! the reference's gcd -/
set_option maxRecDepth 100000 in
set_option maxHeartbeats 4000000 in
theorem gcd_gen {X : jX} (hs : X.1.stackTraces = false) {w : List jC} : ∀ (B c a d : Nat), c < B → c ≤ 7 → a < 2 ^ 31 → B ≤ d → jMet X mX8_gcd d 0 0 [.int (nI a), .int (nI c)] w (pI (fun v => v = nI (Nat.gcd a c)) (fun w' => w' = w)) := by
  intro B
  induction B with
  | zero => intro c a d h; omega
  | succ B ih =>
    intro c a d hB hc ha hd
    refine jMet_of hs (by decide +kernel) (Nat.le_of_ble_eq_true rfl) (L := [some (.int (nI a)), some (.int (nI c))]) rfl ?_
    refine J_iload_n (pc := 0) dX8_gcd_0 rfl rfl ?_
    refine J_if_neN (pc := 1) (tgt := 8) dX8_gcd_1 (by decide) (by omega) (fun h => ?_) (fun h => ?_)
    · have hm := Nat.mod_lt a (show 0 < c by omega)
      refine J_iload_n (pc := 8) dX8_gcd_8 rfl rfl ?_
      refine J_iload_n (pc := 9) dX8_gcd_9 rfl rfl ?_
      refine J_iload_n (pc := 10) dX8_gcd_10 rfl rfl ?_
      refine J_iremN (pc := 11) dX8_gcd_11 (by omega) (by omega) (by omega) ?_
      refine J_callS0 (pc := 12) (M := mX8_gcd) (as := [.int (nI c), .int (nI (a % c))]) dX8_gcd_12 fw_X8_gcd fl_X8_57 fs_X8_gcd rfl (ih (a % c) c (d - 1) (by omega) (by omega) (by omega) (by omega)) (by omega) (st := []) (Nat.le_of_ble_eq_true rfl) rfl (kr_P fun v hv => ?_) kx_I
      refine J_iret (pc := 15) dX8_gcd_15 rfl ⟨?_, rfl⟩
      rw [hv, Nat.gcd_comm a c, Nat.gcd_rec c a, Nat.gcd_comm]
    · subst h
      refine J_iload_n (pc := 4) dX8_gcd_4 rfl rfl ?_
      refine J_goto (pc := 5) (tgt := 15) dX8_gcd_5 (by decide) ?_
      refine J_iret (pc := 15) dX8_gcd_15 rfl ⟨?_, rfl⟩
      rw [Nat.gcd_zero_right]
theorem c_X8_gcd {X : jX} (hs : X.1.stackTraces = false) {d : Nat} (hd : 8 ≤ d) {w : List jC} (a c : Nat) (hy0 : a < 2 ^ 31) (hy1 : c ≤ 7) {kc ks : Nat} : jMet X mX8_gcd d 0 0 [.int (nI a), .int (nI c)] w (pI (fun v => v = nI (Nat.gcd a c)) (fun w' => w' = w)) :=
  gcd_gen hs 8 c a d (by omega) hy1 hy0 hd
end
section
/-! moves as numbers with octal digits; what is done one behind the other -/
def d8 (x p : Nat) : Nat := x / 2 ^ (3 * p) % 2 ^ 3
def mk8 (f : Nat → Nat) : Nat → Nat
  | 0 => 0
  | k + 1 => mk8 f k + f k * 2 ^ (3 * k)
theorem e8 (k : Nat) : 2 ^ (3 * (k + 1)) = 2 ^ (3 * k) * 8 := by rw [Nat.mul_succ, Nat.pow_add]
theorem mk8_lt {f : Nat → Nat} (hf : ∀ p, f p < 8) : ∀ k, mk8 f k < 2 ^ (3 * k)
  | 0 => Nat.one_pos
  | k + 1 => by
    have h1 := mk8_lt hf k
    have h2 : f k * 2 ^ (3 * k) ≤ 7 * 2 ^ (3 * k) := Nat.mul_le_mul_right _ (by have := hf k; omega)
    have h3 := e8 k
    show mk8 f k + f k * 2 ^ (3 * k) < _
    omega
theorem d8_mk8 {f : Nat → Nat} (hf : ∀ p, f p < 8) : ∀ k p, p < k → d8 (mk8 f k) p = f p
  | 0, _, hp => absurd hp (Nat.not_lt_zero _)
  | k + 1, p, hp => by
    show (mk8 f k + f k * 2 ^ (3 * k)) / 2 ^ (3 * p) % 2 ^ 3 = f p
    by_cases e : p = k
    · subst e
      rw [Nat.add_mul_div_right _ _ (Nat.two_pow_pos _), Nat.div_eq_of_lt (mk8_lt hf p), Nat.zero_add]
      exact Nat.mod_eq_of_lt (hf p)
    · obtain ⟨j, rfl⟩ : ∃ j, k = p + 1 + j := ⟨k - (p + 1), by omega⟩
      have h1 : 2 ^ (3 * (p + 1 + j)) = 2 ^ (3 * j) * 2 ^ 3 * 2 ^ (3 * p) := by rw [← Nat.pow_add, ← Nat.pow_add]; congr 1; omega
      rw [h1, ← Nat.mul_assoc, Nat.add_mul_div_right _ _ (Nat.two_pow_pos _), ← Nat.mul_assoc, Nat.add_mul_mod_self_right]
      exact d8_mk8 hf _ p (by omega)
theorem d8_ext : ∀ k x y, x < 2 ^ (3 * k) → y < 2 ^ (3 * k) → (∀ p, p < k → d8 x p = d8 y p) → x = y
  | 0, x, y, hx, hy, _ => by
    rw [Nat.mul_zero, Nat.pow_zero] at hx hy
    omega
  | k + 1, x, y, hx, hy, h => by
    have h0 := h 0 (by omega)
    unfold d8 at h0
    rw [Nat.mul_zero, Nat.pow_zero, Nat.div_one, Nat.div_one] at h0
    have hs := e8 k
    have h1 : x / 8 = y / 8 := by
      refine d8_ext k _ _ (by omega) (by omega) (fun p hp => ?_)
      have h2 := h (p + 1) (by omega)
      unfold d8 at h2 ⊢
      rw [Nat.div_div_eq_div_mul, Nat.div_div_eq_div_mul, Nat.mul_comm 8, ← e8]
      exact h2
    omega
theorem mk8_congr {f g : Nat → Nat} : ∀ k, (∀ p, p < k → f p = g p) → mk8 f k = mk8 g k
  | 0, _ => rfl
  | k + 1, h => by
    show mk8 f k + f k * _ = mk8 g k + g k * _
    rw [mk8_congr k (fun p hp => h p (by omega)), h k (Nat.lt_succ_self k)]
theorem d8_lt (x p : Nat) : d8 x p < 8 := Nat.mod_lt _ (by decide)
/-- a move of n points -/
def Mv (n x : Nat) : Prop := x < 2 ^ (3 * 7) ∧ Pn n (d8 x) ∧ ∀ p, n ≤ p → p < 7 → d8 x p = p
theorem Mv.ext {n x y : Nat} (hx : Mv n x) (hy : Mv n y) (h : ∀ p, p < n → d8 x p = d8 y p) : x = y := by
  refine d8_ext 7 x y hx.1 hy.1 (fun p hp => ?_)
  by_cases e : p < n
  · exact h p e
  · rw [hx.2.2 p (by omega) hp, hy.2.2 p (by omega) hp]
def mkM (n : Nat) (f : Nat → Nat) : Nat := mk8 (fun p => if p < n then f p % 8 else p % 8) 7
theorem mkM_d {n : Nat} (hn : n ≤ 7) {f : Nat → Nat} (hf : ∀ p, p < n → f p < n) {p : Nat} (hp : p < n) : d8 (mkM n f) p = f p := by
  unfold mkM
  rw [d8_mk8 (fun q => by split <;> exact Nat.mod_lt _ (by decide)) 7 p (by omega), if_pos hp]
  have := hf p hp
  exact Nat.mod_eq_of_lt (by omega)
theorem mkM_Mv {n : Nat} (hn : n ≤ 7) {f : Nat → Nat} (hf : Pn n f) : Mv n (mkM n f) := by
  refine ⟨mk8_lt (fun q => by split <;> exact Nat.mod_lt _ (by decide)) 7, hf.congr (fun p hp => mkM_d hn hf.1 hp), fun p h1 h2 => ?_⟩
  unfold mkM
  rw [d8_mk8 (fun q => by split <;> exact Nat.mod_lt _ (by decide)) 7 p h2, if_neg (by omega)]
  exact Nat.mod_eq_of_lt (by omega)
/-- x, then y -/
def cM (n x y : Nat) : Nat := mkM n (fun p => d8 y (d8 x p))
def eM (n : Nat) : Nat := mkM n (fun p => p)
theorem cM_Mv {n x y : Nat} (hn : n ≤ 7) (hx : Mv n x) (hy : Mv n y) : Mv n (cM n x y) := mkM_Mv hn (Pn.comp hx.2.1 hy.2.1)
theorem cM_d {n x y p : Nat} (hn : n ≤ 7) (hx : Mv n x) (hy : Mv n y) (hp : p < n) : d8 (cM n x y) p = d8 y (d8 x p) := mkM_d hn (Pn.comp hx.2.1 hy.2.1).1 hp
theorem eM_Mv {n : Nat} (hn : n ≤ 7) : Mv n (eM n) := mkM_Mv hn (Pn_id n)
theorem eM_d {n p : Nat} (hn : n ≤ 7) (hp : p < n) : d8 (eM n) p = p := mkM_d hn (Pn_id n).1 hp
theorem cM_assoc {n x y z : Nat} (hn : n ≤ 7) (hx : Mv n x) (hy : Mv n y) (hz : Mv n z) : cM n (cM n x y) z = cM n x (cM n y z) := by
  refine (cM_Mv hn (cM_Mv hn hx hy) hz).ext (cM_Mv hn hx (cM_Mv hn hy hz)) (fun p hp => ?_)
  rw [cM_d hn (cM_Mv hn hx hy) hz hp, cM_d hn hx hy hp, cM_d hn hx (cM_Mv hn hy hz) hp, cM_d hn hy hz (hx.2.1.1 p hp)]
theorem cM_e {n x : Nat} (hn : n ≤ 7) (hx : Mv n x) : cM n x (eM n) = x := by
  refine (cM_Mv hn hx (eM_Mv hn)).ext hx (fun p hp => ?_)
  rw [cM_d hn hx (eM_Mv hn) hp, eM_d hn (hx.2.1.1 p hp)]
theorem eM_c {n x : Nat} (hn : n ≤ 7) (hx : Mv n x) : cM n (eM n) x = x := by
  refine (cM_Mv hn (eM_Mv hn) hx).ext hx (fun p hp => ?_)
  rw [cM_d hn (eM_Mv hn) hx hp, eM_d hn hp]
/-- the point that goes to v -/
def so (f : Nat → Nat) (v : Nat) : Nat → Nat
  | 0 => 0
  | k + 1 => if f k = v then k else so f v k
theorem so_spec {f : Nat → Nat} {v : Nat} : ∀ k, (∃ p, p < k ∧ f p = v) → so f v k < k ∧ f (so f v k) = v
  | 0, ⟨_, hp, _⟩ => absurd hp (Nat.not_lt_zero _)
  | k + 1, ⟨p, hp, e⟩ => by
    unfold so
    by_cases q : f k = v
    · rw [if_pos q]; exact ⟨Nat.lt_succ_self _, q⟩
    · rw [if_neg q]
      have hpk : p < k := by
        by_cases z : p = k
        · subst z; exact absurd e q
        · omega
      obtain ⟨h1, h2⟩ := so_spec k ⟨p, hpk, e⟩
      exact ⟨by omega, h2⟩
def iM (n x : Nat) : Nat := mkM n (fun v => so (d8 x) v n)
theorem so_Pn {n x : Nat} (hx : Mv n x) {v : Nat} (hv : v < n) : so (d8 x) v n < n ∧ d8 x (so (d8 x) v n) = v := so_spec n (inj_surj n _ hx.2.1 v hv)
theorem iM_Pn {n x : Nat} (hx : Mv n x) : Pn n (fun v => so (d8 x) v n) :=
  ⟨fun v hv => (so_Pn hx hv).1, fun u v hu hv e => by
    have h1 := (so_Pn hx hu).2
    have h2 := (so_Pn hx hv).2
    have e : so (d8 x) u n = so (d8 x) v n := e
    rw [e, h2] at h1
    exact h1.symm⟩
theorem iM_Mv {n x : Nat} (hn : n ≤ 7) (hx : Mv n x) : Mv n (iM n x) := mkM_Mv hn (iM_Pn hx)
theorem iM_d {n x v : Nat} (hn : n ≤ 7) (hx : Mv n x) (hv : v < n) : d8 (iM n x) v = so (d8 x) v n := mkM_d hn (iM_Pn hx).1 hv
theorem iM_c {n x : Nat} (hn : n ≤ 7) (hx : Mv n x) : cM n (iM n x) x = eM n := by
  refine (cM_Mv hn (iM_Mv hn hx) hx).ext (eM_Mv hn) (fun p hp => ?_)
  rw [cM_d hn (iM_Mv hn hx) hx hp, iM_d hn hx hp, (so_Pn hx hp).2, eM_d hn hp]
theorem c_iM {n x : Nat} (hn : n ≤ 7) (hx : Mv n x) : cM n x (iM n x) = eM n := by
  refine (cM_Mv hn hx (iM_Mv hn hx)).ext (eM_Mv hn) (fun p hp => ?_)
  have hv := hx.2.1.1 p hp
  rw [cM_d hn hx (iM_Mv hn hx) hp, iM_d hn hx hv, eM_d hn hp]
  exact hx.2.1.2 _ _ (so_Pn hx hv).1 hp (so_Pn hx hv).2
end
