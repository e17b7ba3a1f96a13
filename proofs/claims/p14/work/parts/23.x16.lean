/-! contracts of the class -/
set_option maxRecDepth 100000 in
set_option maxHeartbeats 4000000 in
theorem c_X6_enoughSuffices {X : jX} (hs : X.1.stackTraces = false) {d : Nat} (hd : 4 ≤ d) {n : Nat} {e r q : Int32} (hn1 : 2 ≤ n) (hn2 : n ≤ 7) {w : List jC} (hS : SH (rX n e r q) w) {kc ks : Nat} : jMet X mX6_enoughSuffices d kc ks [.ref 0] w (pI (fun v => ∃ k : Nat, v = nI k ∧ k < 2) (fun w' => rS n e r q w w')) := by
  refine jMet_of hs (by decide +kernel) (Nat.le_of_ble_eq_true rfl) (L := [some (.ref 0), none, none]) rfl ?_
  have hG : Fr kX w w := Fr.rf
  refine J_aload_n (pc := 0) dX6_enoughSuffices_0 rfl rfl rfl ?_
  obtain ⟨_, hc1, rfl⟩ := hS 0 _ rfl
  refine J_get (pc := 1) (k := 1) dX6_enoughSuffices_1 kC7 (by decide) ff_X6_16 hc1 rfl ?_
  obtain ⟨_, hc3, ka3, kf3, kb3, kg3, rfl, hb3_0, hb3_1⟩ := hS 2 _ rfl
  refine J_callV0 (pc := 4) (M := mX6_enoughSuffices) (as := []) dX6_enoughSuffices_4 fw_X0_total fl_X6_138 fm_X0_total fe_X0_total hc3 (by decide) rfl rfl rfl (c_X0_total hs (d := d - 1) (by omega) (e := e) (r := r) (q := q) hn1 hn2 hS (w := w)  (kc := 0) (ks := 0)) (by omega) (st := []) (Nat.le_of_ble_eq_true rfl) rfl (kr_P fun v2 hv2 => ?_) kx_I
  refine J_istore_n (pc := 7) dX6_enoughSuffices_7 rfl (by decide) rfl ?_
  show J X mX6_enoughSuffices d kc ks 8 [some (.ref 0), some (.int v2), none] [] w _
  refine J_aload_n (pc := 8) dX6_enoughSuffices_8 rfl rfl rfl ?_
  refine J_get (pc := 9) (k := 1) dX6_enoughSuffices_9 kC7 (by decide) ff_X6_16 hc1 rfl ?_
  refine J_callV0 (pc := 12) (M := mX6_enoughSuffices) (as := []) dX6_enoughSuffices_12 fw_X0_takenCells fl_X6_225 fm_X0_takenCells fe_X0_takenCells hc3 (by decide) rfl rfl rfl (c_X0_takenCells hs (d := d - 1) (by omega) (e := e) (r := r) (q := q) hn1 hn2 hS (w := w)  (kc := 0) (ks := 0)) (by omega) (st := []) (Nat.le_of_ble_eq_true rfl) rfl (kr_P fun v4 hv4 => ?_) kx_I
  refine J_istore_n (pc := 15) dX6_enoughSuffices_15 rfl (by decide) rfl ?_
  show J X mX6_enoughSuffices d kc ks 16 [some (.ref 0), some (.int v2), some (.int v4)] [] w _
  refine J_aload_n (pc := 16) dX6_enoughSuffices_16 rfl rfl rfl ?_
  refine J_get (pc := 17) (k := 1) dX6_enoughSuffices_17 kC7 (by decide) ff_X6_16 hc1 rfl ?_
  refine J_aload_n (pc := 20) dX6_enoughSuffices_20 rfl rfl rfl ?_
  refine J_get (pc := 21) (k := 0) dX6_enoughSuffices_21 kC7 (by decide) ff_X6_9 hc1 rfl ?_
  refine J_iload_n (pc := 24) dX6_enoughSuffices_24 rfl rfl ?_
  refine J_aload_n (pc := 25) dX6_enoughSuffices_25 rfl rfl rfl ?_
  refine J_get (pc := 26) (k := 0) dX6_enoughSuffices_26 kC7 (by decide) ff_X6_9 hc1 rfl ?_
  refine J_iconst (pc := 29) (v := nI 0) dX6_enoughSuffices_29 (by decide) ?_
  obtain ⟨_, hc5, xs5, rfl, hl5⟩ := hS 1 _ rfl
  refine J_iald (pc := 30) dX6_enoughSuffices_30 hc5 (nI_in (by omega) (by omega)) (J_absI fun x6 => ?_)
  refine J_aload_n (pc := 31) dX6_enoughSuffices_31 rfl rfl rfl ?_
  refine J_get (pc := 32) (k := 5) dX6_enoughSuffices_32 kC7 (by decide) ff_X6_41 hc1 rfl ?_
  refine J_callV0 (pc := 35) (M := mX6_enoughSuffices) (as := [.ref 1, .int v4, .int x6, .int (nI n)]) dX6_enoughSuffices_35 fw_X0_raise fl_X6_134 fm_X0_raise fe_X0_raise hc3 (by decide) rfl rfl rfl (c_X0_raise hs (d := d - 1) (by omega) (e := e) (r := r) (q := q) hn1 hn2 hS (w := w) v4 x6 (kc := 0) (ks := 0)) (by omega) (st := []) (Nat.le_of_ble_eq_true rfl) rfl (kr_V fun w7 hw7 => ?_) kx_V
  obtain ⟨hS7, hF7⟩ := hw7
  have hG7 := hG.tr hF7
  refine J_aload_n (pc := 38) dX6_enoughSuffices_38 rfl rfl rfl ?_
  obtain ⟨_, hc8, rfl⟩ := hS7 0 _ rfl
  refine J_get (pc := 39) (k := 1) dX6_enoughSuffices_39 kC7 (by decide) ff_X6_16 hc8 rfl ?_
  obtain ⟨_, hc10, ka10, kf10, kb10, kg10, rfl, hb10_0, hb10_1⟩ := hS7 2 _ rfl
  refine J_callV0 (pc := 42) (M := mX6_enoughSuffices) (as := []) dX6_enoughSuffices_42 fw_X0_total fl_X6_138 fm_X0_total fe_X0_total hc10 (by decide) rfl rfl rfl (c_X0_total hs (d := d - 1) (by omega) (e := e) (r := r) (q := q) hn1 hn2 hS7 (w := w7)  (kc := 0) (ks := 0)) (by omega) (st := []) (Nat.le_of_ble_eq_true rfl) rfl (kr_P fun v9 hv9 => ?_) kx_I
  refine J_iload_n (pc := 45) dX6_enoughSuffices_45 rfl rfl ?_
  refine J_icmp_ne (pc := 46) (tgt := 63) dX6_enoughSuffices_46 (by decide) (fun ht11 => ?_) (fun hf12 => ?_)
  · refine J_iconst (pc := 63) (v := nI 0) dX6_enoughSuffices_63 (by decide) ?_
    exact J_zret (pc := 64) dX6_enoughSuffices_64 rfl (nar_b (by omega)) ⟨⟨0, rfl, by omega⟩, ⟨hS7, hG7⟩⟩
  · refine J_iload_n (pc := 49) dX6_enoughSuffices_49 rfl rfl ?_
    refine J_iconst (pc := 50) (v := nI 1) dX6_enoughSuffices_50 (by decide) ?_
    refine J_iload_n (pc := 51) dX6_enoughSuffices_51 rfl rfl ?_
    refine J_callS0 (pc := 52) (M := mX6_enoughSuffices) (as := [.int v4]) dX6_enoughSuffices_52 fw_J6_bitCount_0f7a4 fl_X6_220 fs_J6_bitCount_0f7a4 rfl (c_J6_bitCount_0f7a4 hs (d := d - 1) (by omega) (w := w7) v4 (kc := 0) (ks := 0)) (by omega) (st := [.int (nI 1), .int v2]) (Nat.le_of_ble_eq_true rfl) rfl (kr_P fun v13 hv13 => ?_) kx_I
    obtain ⟨k13, rfl, hk13⟩ := hv13
    refine J_ishl (pc := 55) dX6_enoughSuffices_55 (J_absI fun x14 => ?_)
    refine J_icmp_lt (pc := 56) (tgt := 63) dX6_enoughSuffices_56 (by decide) (fun ht15 => ?_) (fun hf16 => ?_)
    · refine J_iconst (pc := 63) (v := nI 0) dX6_enoughSuffices_63 (by decide) ?_
      exact J_zret (pc := 64) dX6_enoughSuffices_64 rfl (nar_b (by omega)) ⟨⟨0, rfl, by omega⟩, ⟨hS7, hG7⟩⟩
    · refine J_iconst (pc := 59) (v := nI 1) dX6_enoughSuffices_59 (by decide) ?_
      refine J_goto (pc := 60) (tgt := 64) dX6_enoughSuffices_60 (by decide) ?_
      exact J_zret (pc := 64) dX6_enoughSuffices_64 rfl (nar_b (by omega)) ⟨⟨1, rfl, by omega⟩, ⟨hS7, hG7⟩⟩
set_option maxRecDepth 100000 in
set_option maxHeartbeats 4000000 in
theorem c_X6_allAgrees {X : jX} (hs : X.1.stackTraces = false) {d : Nat} (hd : 6 ≤ d) {n : Nat} {e r q : Int32} (hn1 : 2 ≤ n) (hn2 : n ≤ 7) {w : List jC} (hS : SH (rX n e r q) w) {kc ks : Nat} : jMet X mX6_allAgrees d kc ks [.ref 0] w (pI (fun v => ∃ k : Nat, v = nI k ∧ k < 2) (fun w' => rS n e r q w w')) := by
  refine jMet_of hs (by decide +kernel) (Nat.le_of_ble_eq_true rfl) (L := [some (.ref 0)]) rfl ?_
  have hG : Fr kX w w := Fr.rf
  refine J_aload_n (pc := 0) dX6_allAgrees_0 rfl rfl rfl ?_
  obtain ⟨_, hc2, rfl⟩ := hS 0 _ rfl
  refine J_callV0 (pc := 1) (M := mX6_allAgrees) (as := []) dX6_allAgrees_1 fw_X6_sizesAgree fl_X6_268 fm_X6_sizesAgree fe_X6_sizesAgree hc2 (by decide) rfl rfl rfl (c_X6_sizesAgree hs (d := d - 1) (by omega) (e := e) (r := r) (q := q) hn1 hn2 hS (w := w)  (kc := 0) (ks := 0)) (by omega) (st := []) (Nat.le_of_ble_eq_true rfl) rfl (kr_P fun v1 hv1 => ?_) kx_I
  obtain ⟨k1, rfl, hk1⟩ := hv1
  refine J_if_eqN (pc := 4) (tgt := 55) dX6_allAgrees_4 (by decide) (by omega) (fun ht3 => ?_) (fun hf4 => ?_)
  · refine J_iconst (pc := 55) (v := nI 0) dX6_allAgrees_55 (by decide) ?_
    exact J_zret (pc := 56) dX6_allAgrees_56 rfl (nar_b (by omega)) ⟨⟨0, rfl, by omega⟩, ⟨hS, hG⟩⟩
  · refine J_aload_n (pc := 7) dX6_allAgrees_7 rfl rfl rfl ?_
    refine J_callV0 (pc := 8) (M := mX6_allAgrees) (as := []) dX6_allAgrees_8 fw_X6_ranksAgree fl_X6_271 fm_X6_ranksAgree fe_X6_ranksAgree hc2 (by decide) rfl rfl rfl (c_X6_ranksAgree hs (d := d - 1) (by omega) (e := e) (r := r) (q := q) hn1 hn2 hS (w := w)  (kc := 0) (ks := 0)) (by omega) (st := []) (Nat.le_of_ble_eq_true rfl) rfl (kr_P fun v5 hv5 => ?_) kx_I
    obtain ⟨k5, rfl, hk5⟩ := hv5
    refine J_if_eqN (pc := 11) (tgt := 55) dX6_allAgrees_11 (by decide) (by omega) (fun ht6 => ?_) (fun hf7 => ?_)
    · refine J_iconst (pc := 55) (v := nI 0) dX6_allAgrees_55 (by decide) ?_
      exact J_zret (pc := 56) dX6_allAgrees_56 rfl (nar_b (by omega)) ⟨⟨0, rfl, by omega⟩, ⟨hS, hG⟩⟩
    · refine J_aload_n (pc := 14) dX6_allAgrees_14 rfl rfl rfl ?_
      refine J_callV0 (pc := 15) (M := mX6_allAgrees) (as := []) dX6_allAgrees_15 fw_X6_signsAgree fl_X6_274 fm_X6_signsAgree fe_X6_signsAgree hc2 (by decide) rfl rfl rfl (c_X6_signsAgree hs (d := d - 1) (by omega) (e := e) (r := r) (q := q) hn1 hn2 hS (w := w)  (kc := 0) (ks := 0)) (by omega) (st := []) (Nat.le_of_ble_eq_true rfl) rfl (kr_P fun v8 hv8 => ?_) kx_I
      obtain ⟨k8, rfl, hk8⟩ := hv8
      refine J_if_eqN (pc := 18) (tgt := 55) dX6_allAgrees_18 (by decide) (by omega) (fun ht9 => ?_) (fun hf10 => ?_)
      · refine J_iconst (pc := 55) (v := nI 0) dX6_allAgrees_55 (by decide) ?_
        exact J_zret (pc := 56) dX6_allAgrees_56 rfl (nar_b (by omega)) ⟨⟨0, rfl, by omega⟩, ⟨hS, hG⟩⟩
      · refine J_aload_n (pc := 21) dX6_allAgrees_21 rfl rfl rfl ?_
        refine J_get (pc := 22) (k := 1) dX6_allAgrees_22 kC7 (by decide) ff_X6_16 hc2 rfl ?_
        refine J_aload_n (pc := 25) dX6_allAgrees_25 rfl rfl rfl ?_
        refine J_get (pc := 26) (k := 0) dX6_allAgrees_26 kC7 (by decide) ff_X6_9 hc2 rfl ?_
        refine J_bipush (pc := 29) (v := nI 63) dX6_allAgrees_29 (by decide) ?_
        obtain ⟨_, hc12, ka12, kf12, kb12, kg12, rfl, hb12_0, hb12_1⟩ := hS 2 _ rfl
        refine J_callV0 (pc := 31) (M := mX6_allAgrees) (as := [.ref 1, .int (nI 63)]) dX6_allAgrees_31 fw_X0_holdsAll fl_X6_209 fm_X0_holdsAll fe_X0_holdsAll hc12 (by decide) rfl rfl rfl (c_X0_holdsAll hs (d := d - 1) (by omega) (e := e) (r := r) (q := q) hn1 hn2 hS (w := w) (nI 63) (kc := 0) (ks := 0)) (by omega) (st := []) (Nat.le_of_ble_eq_true rfl) rfl (kr_P fun v11 hv11 => ?_) kx_I
        obtain ⟨k11, rfl, hk11⟩ := hv11
        refine J_if_eqN (pc := 34) (tgt := 55) dX6_allAgrees_34 (by decide) (by omega) (fun ht13 => ?_) (fun hf14 => ?_)
        · refine J_iconst (pc := 55) (v := nI 0) dX6_allAgrees_55 (by decide) ?_
          exact J_zret (pc := 56) dX6_allAgrees_56 rfl (nar_b (by omega)) ⟨⟨0, rfl, by omega⟩, ⟨hS, hG⟩⟩
        · refine J_aload_n (pc := 37) dX6_allAgrees_37 rfl rfl rfl ?_
          refine J_callV0 (pc := 38) (M := mX6_allAgrees) (as := []) dX6_allAgrees_38 fw_X6_colouringsAgree fl_X6_277 fm_X6_colouringsAgree fe_X6_colouringsAgree hc2 (by decide) rfl rfl rfl (c_X6_colouringsAgree hs (d := d - 1) (by omega) (e := e) (r := r) (q := q) hn1 hn2 hS (w := w)  (kc := 0) (ks := 0)) (by omega) (st := []) (Nat.le_of_ble_eq_true rfl) rfl (kr_I fun v15 w15 hv15 hw15 => ?_) kx_I
          obtain ⟨k15, rfl, hk15⟩ := hv15
          obtain ⟨hS15, hF15⟩ := hw15
          have hG15 := hG.tr hF15
          refine J_if_eqN (pc := 41) (tgt := 55) dX6_allAgrees_41 (by decide) (by omega) (fun ht16 => ?_) (fun hf17 => ?_)
          · refine J_iconst (pc := 55) (v := nI 0) dX6_allAgrees_55 (by decide) ?_
            exact J_zret (pc := 56) dX6_allAgrees_56 rfl (nar_b (by omega)) ⟨⟨0, rfl, by omega⟩, ⟨hS15, hG15⟩⟩
          · refine J_aload_n (pc := 44) dX6_allAgrees_44 rfl rfl rfl ?_
            obtain ⟨_, hc19, rfl⟩ := hS15 0 _ rfl
            refine J_callV0 (pc := 45) (M := mX6_allAgrees) (as := []) dX6_allAgrees_45 fw_X6_enoughSuffices fl_X6_280 fm_X6_enoughSuffices fe_X6_enoughSuffices hc19 (by decide) rfl rfl rfl (c_X6_enoughSuffices hs (d := d - 1) (by omega) (e := e) (r := r) (q := q) hn1 hn2 hS15 (w := w15)  (kc := 0) (ks := 0)) (by omega) (st := []) (Nat.le_of_ble_eq_true rfl) rfl (kr_I fun v18 w18 hv18 hw18 => ?_) kx_I
            obtain ⟨k18, rfl, hk18⟩ := hv18
            obtain ⟨hS18, hF18⟩ := hw18
            have hG18 := hG15.tr hF18
            refine J_if_eqN (pc := 48) (tgt := 55) dX6_allAgrees_48 (by decide) (by omega) (fun ht20 => ?_) (fun hf21 => ?_)
            · refine J_iconst (pc := 55) (v := nI 0) dX6_allAgrees_55 (by decide) ?_
              exact J_zret (pc := 56) dX6_allAgrees_56 rfl (nar_b (by omega)) ⟨⟨0, rfl, by omega⟩, ⟨hS18, hG18⟩⟩
            · refine J_iconst (pc := 51) (v := nI 1) dX6_allAgrees_51 (by decide) ?_
              refine J_goto (pc := 52) (tgt := 56) dX6_allAgrees_52 (by decide) ?_
              exact J_zret (pc := 56) dX6_allAgrees_56 rfl (nar_b (by omega)) ⟨⟨1, rfl, by omega⟩, ⟨hS18, hG18⟩⟩
set_option maxRecDepth 100000 in
set_option maxHeartbeats 4000000 in
theorem c_X6_isSound {X : jX} (hs : X.1.stackTraces = false) {d : Nat} (hd : 7 ≤ d) {n : Nat} {e r q : Int32} (hn1 : 2 ≤ n) (hn2 : n ≤ 7) {w : List jC} (hS : SH (rX n e r q) w) {kc ks : Nat} : jMet X mX6_isSound d kc ks [.ref 0] w (pI (fun v => ∃ k : Nat, v = nI k ∧ k < 2) (fun w' => rS n e r q w w')) := by
  refine jMet_of hs (by decide +kernel) (Nat.le_of_ble_eq_true rfl) (L := [some (.ref 0)]) rfl ?_
  have hG : Fr kX w w := Fr.rf
  refine J_aload_n (pc := 0) dX6_isSound_0 rfl rfl rfl ?_
  obtain ⟨_, hc2, rfl⟩ := hS 0 _ rfl
  refine J_callV0 (pc := 1) (M := mX6_isSound) (as := []) dX6_isSound_1 fw_X6_raiseAll fl_X6_228 fm_X6_raiseAll fe_X6_raiseAll hc2 (by decide) rfl rfl rfl (c_X6_raiseAll hs (d := d - 1) (by omega) (e := e) (r := r) (q := q) hn1 hn2 hS (w := w)  (kc := 0) (ks := 0)) (by omega) (st := []) (Nat.le_of_ble_eq_true rfl) rfl (kr_V fun w1 hw1 => ?_) kx_V
  obtain ⟨hS1, hF1⟩ := hw1
  have hG1 := hG.tr hF1
  refine J_aload_n (pc := 4) dX6_isSound_4 rfl rfl rfl ?_
  obtain ⟨_, hc4, rfl⟩ := hS1 0 _ rfl
  refine J_callV0 (pc := 5) (M := mX6_isSound) (as := []) dX6_isSound_5 fw_X6_allAgrees fl_X6_231 fm_X6_allAgrees fe_X6_allAgrees hc4 (by decide) rfl rfl rfl (c_X6_allAgrees hs (d := d - 1) (by omega) (e := e) (r := r) (q := q) hn1 hn2 hS1 (w := w1)  (kc := 0) (ks := 0)) (by omega) (st := []) (Nat.le_of_ble_eq_true rfl) rfl (kr_I fun v3 w3 hv3 hw3 => ?_) kx_I
  obtain ⟨k3, rfl, hk3⟩ := hv3
  obtain ⟨hS3, hF3⟩ := hw3
  have hG3 := hG1.tr hF3
  exact J_zret (pc := 8) dX6_isSound_8 rfl (nar_b (by omega)) ⟨⟨k3, rfl, by omega⟩, ⟨hS3, hG3⟩⟩
