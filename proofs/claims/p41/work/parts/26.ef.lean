/-! contracts of the reference: rspec4 -/
set_option maxRecDepth 100000 in
set_option maxHeartbeats 4000000 in
theorem c_X8_reach {X : jX} (hs : X.1.stackTraces = false) {d : Nat} (hd : 5 ≤ d) {n : Nat} {mv rw nx : Nat → Nat} {b : Nat} {bt : List Int32} {kn en dn rf kk th : Int32} {w : List jC} (hR : RM n mv rw nx b bt kn en dn rf kk th w) (hn1 : 2 ≤ n) (hn2 : n ≤ 7) (gm : ∀ i, mv i < 7) (gr : ∀ i, rw i < 7) (gx : ∀ i, nx i < 7) (s : Int32) (a : Int32) (c : Int32) (hy0 : PM n mv) (hy1 : KX n mv kn bt) {kc ks : Nat} (hkc : 13 ≤ kc) (hks : 2054 ≤ ks) : jMet X mX8_reach d kc ks [.ref 19, .int s, .int a, .int c] w (pI (fun _ => True) (fun w' => ∃ (rw' : Nat → Nat), ∃ (nx' : Nat → Nat), ∃ (b' : Nat), ∃ (bt' : List Int32), ∃ (kn' : Int32), ∃ (en' : Int32), ∃ (th' : Int32), RM n mv rw' nx' b' bt' kn' en' dn rf kk th' w' ∧ FR b b' w w' ∧ (∀ i, rw' i < 7) ∧ (∀ i, nx' i < 7) ∧ KX n mv kn' bt')) := by
  refine jMet_of hs (by decide +kernel) (Nat.le_of_ble_eq_true rfl) (L := [some (.ref 19), some (.int s), some (.int a), some (.int c)]) rfl ?_
  have hdm : 4 ≤ d - 1 := by omega
  have hdp : d - 1 + 1 ≤ d := by omega
  have hfc := fc_7 hn2
  have hfp := fc_pos n
  obtain ⟨h19, h20, h21, h22, hbb, hbl, hb3⟩ := hR
  have hF : FR b b w w := FR.rf
  refine J_aload_n (pc := 0) dX8_reach_0 rfl rfl rfl ?_
  refine J_iload_n (pc := 1) dX8_reach_1 rfl rfl ?_
  refine J_callS0 (pc := 2) (M := mX8_reach) (as := [.int a]) dX8_reach_2 fw_X8_isCell fl_X8_108 fs_X8_isCell rfl (c_X8_isCell hs (d := d - 1) (Nat.le_trans (by decide) hdm) (w := w) a (kc := 0) (ks := 0)) hdp (st := [.ref 19]) (Nat.le_of_ble_eq_true rfl) rfl (kr_P fun v1 hv1 => ?_) kx_I
  rcases hv1 with ⟨rfl, hk1_0⟩ | ⟨q1, rfl, hk1_0, rfl⟩
  · refine J_if_eqN (pc := 5) (tgt := 16) dX8_reach_5 (by decide) (by decide) (fun _ => ?_) (fun h => absurd h (by decide))
    refine J_iconst (pc := 16) (v := nI 1) dX8_reach_16 (by decide) ?_
    refine J_goto (pc := 17) (tgt := 21) dX8_reach_17 (by decide) ?_
    refine J_iload_n (pc := 21) dX8_reach_21 rfl rfl ?_
    refine J_callS0 (pc := 22) (M := mX8_reach) (as := [.int s]) dX8_reach_22 fw_X8_isSet fl_X8_134 fs_X8_isSet rfl (c_X8_isSet hs (d := d - 1) (Nat.le_trans (by decide) hdm) (w := w) s (kc := 0) (ks := 0)) hdp (st := [.int (nI 1), .ref 19]) (Nat.le_of_ble_eq_true rfl) rfl (kr_P fun v2 hv2 => ?_) kx_I
    rcases hv2 with ⟨rfl, hk2_0⟩ | ⟨q2, rfl, hk2_0, rfl⟩
    · refine J_if_neN (pc := 25) (tgt := 32) dX8_reach_25 (by decide) (by decide) (fun h => absurd h (by decide)) (fun _ => ?_)
      refine J_iconst (pc := 28) (v := nI 1) dX8_reach_28 (by decide) ?_
      refine J_goto (pc := 29) (tgt := 33) dX8_reach_29 (by decide) ?_
      refine J_callV0 (pc := 33) (M := mX8_reach) (as := [.int (nI 1), .int (nI 1)]) dX8_reach_33 fw_X8_isThrown fl_X8_35 fm_X8_isThrown fe_X8_isThrown h19 (by decide) rfl rfl rfl (c_X8_isThrown hs (d := d - 1) (Nat.le_trans (by decide) hdm) (w := w) (n := n) (mv := mv) (rw := rw) (nx := nx) (b := b) (bt := bt) (kn := kn) (en := en) (dn := dn) (rf := rf) (kk := kk) (th := th) ⟨h19, h20, h21, h22, hbb, hbl, hb3⟩ hn1 hn2 gm gr gx 1 1 (by first | assumption | omega) (by first | assumption | omega) (kc := 0) (ks := 0)) hdp (st := []) (Nat.le_of_ble_eq_true rfl) rfl (kr_I fun v3 w3 hv3 hw3 => ?_) kx_I
      obtain ⟨hR3, hFc3⟩ := hw3
      obtain ⟨h19_3, h20_3, h21_3, h22_3, hbb_3, hbl_3, hb3_3⟩ := hR3
      have hF3 := hF.tr hFc3
      subst hv3
      show J X mX8_reach d kc ks 36 [some (.ref 19), some (.int s), some (.int a), some (.int c)] [.int (nI 1)] w3 _
      refine J_if_eqN (pc := 36) (tgt := 43) dX8_reach_36 (by decide) (by decide) (fun h => absurd h (by decide)) (fun _ => ?_)
      refine J_iconst (pc := 39) (v := nI 0) dX8_reach_39 (by decide) ?_
      refine J_goto (pc := 40) (tgt := 50) dX8_reach_40 (by decide) ?_
      exact J_iret (pc := 50) dX8_reach_50 rfl ⟨trivial, ⟨rw, nx, b, bt, kn, en, nI (tW 1 1), ⟨h19_3, h20_3, h21_3, h22_3, hbb_3, hbl_3, hb3_3⟩, hF3, gr, gx, (by first | assumption | exact KX_i (by assumption) (by omega) (by first | rfl | assumption))⟩⟩
    · refine J_if_neN (pc := 25) (tgt := 32) dX8_reach_25 (by decide) (by decide) (fun _ => ?_) (fun h => absurd h (by decide))
      refine J_iconst (pc := 32) (v := nI 0) dX8_reach_32 (by decide) ?_
      refine J_callV0 (pc := 33) (M := mX8_reach) (as := [.int (nI 1), .int (nI 0)]) dX8_reach_33 fw_X8_isThrown fl_X8_35 fm_X8_isThrown fe_X8_isThrown h19 (by decide) rfl rfl rfl (c_X8_isThrown hs (d := d - 1) (Nat.le_trans (by decide) hdm) (w := w) (n := n) (mv := mv) (rw := rw) (nx := nx) (b := b) (bt := bt) (kn := kn) (en := en) (dn := dn) (rf := rf) (kk := kk) (th := th) ⟨h19, h20, h21, h22, hbb, hbl, hb3⟩ hn1 hn2 gm gr gx 1 0 (by first | assumption | omega) (by first | assumption | omega) (kc := 0) (ks := 0)) hdp (st := []) (Nat.le_of_ble_eq_true rfl) rfl (kr_I fun v4 w4 hv4 hw4 => ?_) kx_I
      obtain ⟨hR4, hFc4⟩ := hw4
      obtain ⟨h19_4, h20_4, h21_4, h22_4, hbb_4, hbl_4, hb3_4⟩ := hR4
      have hF4 := hF.tr hFc4
      subst hv4
      show J X mX8_reach d kc ks 36 [some (.ref 19), some (.int (nI q2)), some (.int a), some (.int c)] [.int (nI 1)] w4 _
      refine J_if_eqN (pc := 36) (tgt := 43) dX8_reach_36 (by decide) (by decide) (fun h => absurd h (by decide)) (fun _ => ?_)
      refine J_iconst (pc := 39) (v := nI 0) dX8_reach_39 (by decide) ?_
      refine J_goto (pc := 40) (tgt := 50) dX8_reach_40 (by decide) ?_
      exact J_iret (pc := 50) dX8_reach_50 rfl ⟨trivial, ⟨rw, nx, b, bt, kn, en, nI (tW 1 0), ⟨h19_4, h20_4, h21_4, h22_4, hbb_4, hbl_4, hb3_4⟩, hF4, gr, gx, (by first | assumption | exact KX_i (by assumption) (by omega) (by first | rfl | assumption))⟩⟩
  · refine J_if_eqN (pc := 5) (tgt := 16) dX8_reach_5 (by decide) (by decide) (fun h => absurd h (by decide)) (fun _ => ?_)
    refine J_aload_n (pc := 8) dX8_reach_8 rfl rfl rfl ?_
    refine J_iload_n (pc := 9) dX8_reach_9 rfl rfl ?_
    refine J_callV0 (pc := 10) (M := mX8_reach) (as := [.int c]) dX8_reach_10 fw_X8_isPoint fl_X8_118 fm_X8_isPoint fe_X8_isPoint h19 (by decide) rfl rfl rfl (c_X8_isPoint hs (d := d - 1) (Nat.le_trans (by decide) hdm) (w := w) (n := n) (mv := mv) (rw := rw) (nx := nx) (b := b) (bt := bt) (kn := kn) (en := en) (dn := dn) (rf := rf) (kk := kk) (th := th) ⟨h19, h20, h21, h22, hbb, hbl, hb3⟩ hn1 hn2 gm gr gx c (kc := 0) (ks := 0)) hdp (st := [.ref 19]) (Nat.le_of_ble_eq_true rfl) rfl (kr_P fun v5 hv5 => ?_) kx_I
    rcases hv5 with ⟨rfl, hk5_0⟩ | ⟨q5, rfl, hk5_0, rfl⟩
    · refine J_if_neN (pc := 13) (tgt := 20) dX8_reach_13 (by decide) (by decide) (fun h => absurd h (by decide)) (fun _ => ?_)
      refine J_iconst (pc := 16) (v := nI 1) dX8_reach_16 (by decide) ?_
      refine J_goto (pc := 17) (tgt := 21) dX8_reach_17 (by decide) ?_
      refine J_iload_n (pc := 21) dX8_reach_21 rfl rfl ?_
      refine J_callS0 (pc := 22) (M := mX8_reach) (as := [.int s]) dX8_reach_22 fw_X8_isSet fl_X8_134 fs_X8_isSet rfl (c_X8_isSet hs (d := d - 1) (Nat.le_trans (by decide) hdm) (w := w) s (kc := 0) (ks := 0)) hdp (st := [.int (nI 1), .ref 19]) (Nat.le_of_ble_eq_true rfl) rfl (kr_P fun v6 hv6 => ?_) kx_I
      rcases hv6 with ⟨rfl, hk6_0⟩ | ⟨q6, rfl, hk6_0, rfl⟩
      · refine J_if_neN (pc := 25) (tgt := 32) dX8_reach_25 (by decide) (by decide) (fun h => absurd h (by decide)) (fun _ => ?_)
        refine J_iconst (pc := 28) (v := nI 1) dX8_reach_28 (by decide) ?_
        refine J_goto (pc := 29) (tgt := 33) dX8_reach_29 (by decide) ?_
        refine J_callV0 (pc := 33) (M := mX8_reach) (as := [.int (nI 1), .int (nI 1)]) dX8_reach_33 fw_X8_isThrown fl_X8_35 fm_X8_isThrown fe_X8_isThrown h19 (by decide) rfl rfl rfl (c_X8_isThrown hs (d := d - 1) (Nat.le_trans (by decide) hdm) (w := w) (n := n) (mv := mv) (rw := rw) (nx := nx) (b := b) (bt := bt) (kn := kn) (en := en) (dn := dn) (rf := rf) (kk := kk) (th := th) ⟨h19, h20, h21, h22, hbb, hbl, hb3⟩ hn1 hn2 gm gr gx 1 1 (by first | assumption | omega) (by first | assumption | omega) (kc := 0) (ks := 0)) hdp (st := []) (Nat.le_of_ble_eq_true rfl) rfl (kr_I fun v7 w7 hv7 hw7 => ?_) kx_I
        obtain ⟨hR7, hFc7⟩ := hw7
        obtain ⟨h19_7, h20_7, h21_7, h22_7, hbb_7, hbl_7, hb3_7⟩ := hR7
        have hF7 := hF.tr hFc7
        subst hv7
        show J X mX8_reach d kc ks 36 [some (.ref 19), some (.int s), some (.int (nI q1)), some (.int c)] [.int (nI 1)] w7 _
        refine J_if_eqN (pc := 36) (tgt := 43) dX8_reach_36 (by decide) (by decide) (fun h => absurd h (by decide)) (fun _ => ?_)
        refine J_iconst (pc := 39) (v := nI 0) dX8_reach_39 (by decide) ?_
        refine J_goto (pc := 40) (tgt := 50) dX8_reach_40 (by decide) ?_
        exact J_iret (pc := 50) dX8_reach_50 rfl ⟨trivial, ⟨rw, nx, b, bt, kn, en, nI (tW 1 1), ⟨h19_7, h20_7, h21_7, h22_7, hbb_7, hbl_7, hb3_7⟩, hF7, gr, gx, (by first | assumption | exact KX_i (by assumption) (by omega) (by first | rfl | assumption))⟩⟩
      · refine J_if_neN (pc := 25) (tgt := 32) dX8_reach_25 (by decide) (by decide) (fun _ => ?_) (fun h => absurd h (by decide))
        refine J_iconst (pc := 32) (v := nI 0) dX8_reach_32 (by decide) ?_
        refine J_callV0 (pc := 33) (M := mX8_reach) (as := [.int (nI 1), .int (nI 0)]) dX8_reach_33 fw_X8_isThrown fl_X8_35 fm_X8_isThrown fe_X8_isThrown h19 (by decide) rfl rfl rfl (c_X8_isThrown hs (d := d - 1) (Nat.le_trans (by decide) hdm) (w := w) (n := n) (mv := mv) (rw := rw) (nx := nx) (b := b) (bt := bt) (kn := kn) (en := en) (dn := dn) (rf := rf) (kk := kk) (th := th) ⟨h19, h20, h21, h22, hbb, hbl, hb3⟩ hn1 hn2 gm gr gx 1 0 (by first | assumption | omega) (by first | assumption | omega) (kc := 0) (ks := 0)) hdp (st := []) (Nat.le_of_ble_eq_true rfl) rfl (kr_I fun v8 w8 hv8 hw8 => ?_) kx_I
        obtain ⟨hR8, hFc8⟩ := hw8
        obtain ⟨h19_8, h20_8, h21_8, h22_8, hbb_8, hbl_8, hb3_8⟩ := hR8
        have hF8 := hF.tr hFc8
        subst hv8
        show J X mX8_reach d kc ks 36 [some (.ref 19), some (.int (nI q6)), some (.int (nI q1)), some (.int c)] [.int (nI 1)] w8 _
        refine J_if_eqN (pc := 36) (tgt := 43) dX8_reach_36 (by decide) (by decide) (fun h => absurd h (by decide)) (fun _ => ?_)
        refine J_iconst (pc := 39) (v := nI 0) dX8_reach_39 (by decide) ?_
        refine J_goto (pc := 40) (tgt := 50) dX8_reach_40 (by decide) ?_
        exact J_iret (pc := 50) dX8_reach_50 rfl ⟨trivial, ⟨rw, nx, b, bt, kn, en, nI (tW 1 0), ⟨h19_8, h20_8, h21_8, h22_8, hbb_8, hbl_8, hb3_8⟩, hF8, gr, gx, (by first | assumption | exact KX_i (by assumption) (by omega) (by first | rfl | assumption))⟩⟩
    · refine J_if_neN (pc := 13) (tgt := 20) dX8_reach_13 (by decide) (by decide) (fun _ => ?_) (fun h => absurd h (by decide))
      refine J_iconst (pc := 20) (v := nI 0) dX8_reach_20 (by decide) ?_
      refine J_iload_n (pc := 21) dX8_reach_21 rfl rfl ?_
      refine J_callS0 (pc := 22) (M := mX8_reach) (as := [.int s]) dX8_reach_22 fw_X8_isSet fl_X8_134 fs_X8_isSet rfl (c_X8_isSet hs (d := d - 1) (Nat.le_trans (by decide) hdm) (w := w) s (kc := 0) (ks := 0)) hdp (st := [.int (nI 0), .ref 19]) (Nat.le_of_ble_eq_true rfl) rfl (kr_P fun v9 hv9 => ?_) kx_I
      rcases hv9 with ⟨rfl, hk9_0⟩ | ⟨q9, rfl, hk9_0, rfl⟩
      · refine J_if_neN (pc := 25) (tgt := 32) dX8_reach_25 (by decide) (by decide) (fun h => absurd h (by decide)) (fun _ => ?_)
        refine J_iconst (pc := 28) (v := nI 1) dX8_reach_28 (by decide) ?_
        refine J_goto (pc := 29) (tgt := 33) dX8_reach_29 (by decide) ?_
        refine J_callV0 (pc := 33) (M := mX8_reach) (as := [.int (nI 0), .int (nI 1)]) dX8_reach_33 fw_X8_isThrown fl_X8_35 fm_X8_isThrown fe_X8_isThrown h19 (by decide) rfl rfl rfl (c_X8_isThrown hs (d := d - 1) (Nat.le_trans (by decide) hdm) (w := w) (n := n) (mv := mv) (rw := rw) (nx := nx) (b := b) (bt := bt) (kn := kn) (en := en) (dn := dn) (rf := rf) (kk := kk) (th := th) ⟨h19, h20, h21, h22, hbb, hbl, hb3⟩ hn1 hn2 gm gr gx 0 1 (by first | assumption | omega) (by first | assumption | omega) (kc := 0) (ks := 0)) hdp (st := []) (Nat.le_of_ble_eq_true rfl) rfl (kr_I fun v10 w10 hv10 hw10 => ?_) kx_I
        obtain ⟨hR10, hFc10⟩ := hw10
        obtain ⟨h19_10, h20_10, h21_10, h22_10, hbb_10, hbl_10, hb3_10⟩ := hR10
        have hF10 := hF.tr hFc10
        subst hv10
        show J X mX8_reach d kc ks 36 [some (.ref 19), some (.int s), some (.int (nI q1)), some (.int (nI q5))] [.int (nI 1)] w10 _
        refine J_if_eqN (pc := 36) (tgt := 43) dX8_reach_36 (by decide) (by decide) (fun h => absurd h (by decide)) (fun _ => ?_)
        refine J_iconst (pc := 39) (v := nI 0) dX8_reach_39 (by decide) ?_
        refine J_goto (pc := 40) (tgt := 50) dX8_reach_40 (by decide) ?_
        exact J_iret (pc := 50) dX8_reach_50 rfl ⟨trivial, ⟨rw, nx, b, bt, kn, en, nI (tW 0 1), ⟨h19_10, h20_10, h21_10, h22_10, hbb_10, hbl_10, hb3_10⟩, hF10, gr, gx, (by first | assumption | exact KX_i (by assumption) (by omega) (by first | rfl | assumption))⟩⟩
      · refine J_if_neN (pc := 25) (tgt := 32) dX8_reach_25 (by decide) (by decide) (fun _ => ?_) (fun h => absurd h (by decide))
        refine J_iconst (pc := 32) (v := nI 0) dX8_reach_32 (by decide) ?_
        refine J_callV0 (pc := 33) (M := mX8_reach) (as := [.int (nI 0), .int (nI 0)]) dX8_reach_33 fw_X8_isThrown fl_X8_35 fm_X8_isThrown fe_X8_isThrown h19 (by decide) rfl rfl rfl (c_X8_isThrown hs (d := d - 1) (Nat.le_trans (by decide) hdm) (w := w) (n := n) (mv := mv) (rw := rw) (nx := nx) (b := b) (bt := bt) (kn := kn) (en := en) (dn := dn) (rf := rf) (kk := kk) (th := th) ⟨h19, h20, h21, h22, hbb, hbl, hb3⟩ hn1 hn2 gm gr gx 0 0 (by first | assumption | omega) (by first | assumption | omega) (kc := 0) (ks := 0)) hdp (st := []) (Nat.le_of_ble_eq_true rfl) rfl (kr_I fun v11 w11 hv11 hw11 => ?_) kx_I
        obtain ⟨hR11, hFc11⟩ := hw11
        obtain ⟨h19_11, h20_11, h21_11, h22_11, hbb_11, hbl_11, hb3_11⟩ := hR11
        have hF11 := hF.tr hFc11
        subst hv11
        show J X mX8_reach d kc ks 36 [some (.ref 19), some (.int (nI q9)), some (.int (nI q1)), some (.int (nI q5))] [.int (nI 0)] w11 _
        refine J_if_eqN (pc := 36) (tgt := 43) dX8_reach_36 (by decide) (by decide) (fun _ => ?_) (fun h => absurd h (by decide))
        refine J_aload_n (pc := 43) dX8_reach_43 rfl rfl rfl ?_
        refine J_iload_n (pc := 44) dX8_reach_44 rfl rfl ?_
        refine J_iload_n (pc := 45) dX8_reach_45 rfl rfl ?_
        refine J_iload_n (pc := 46) dX8_reach_46 rfl rfl ?_
        refine J_callV (pc := 47) (M := mX8_reach) (as := [.int (nI q9), .int (nI q1), .int (nI q5)]) dX8_reach_47 fw_X8_reachNow fl_X8_181 fm_X8_reachNow fe_X8_reachNow h19_11 (by decide) rfl rfl rfl (c_X8_reachNow hs (d := d - 1) (Nat.le_trans (by decide) hdm) (w := w11) (n := n) (mv := mv) (rw := rw) (nx := nx) (b := b) (bt := bt) (kn := kn) (en := en) (dn := dn) (rf := rf) (kk := kk) (th := nI (tW 0 0)) ⟨h19_11, h20_11, h21_11, h22_11, hbb_11, hbl_11, hb3_11⟩ hn1 hn2 gm gr gx q9 q1 q5 (by first | assumption | omega) (by first | assumption | omega) (by first | assumption | omega) (by first | assumption | omega) (by first | assumption | omega) (kc := 13) (ks := 2054) (Nat.le_refl _) (Nat.le_refl _)) hdp (by omega) (by omega) (st := []) (Nat.le_of_ble_eq_true rfl) rfl (kr_I fun v12 w12 hv12 hw12 => ?_) kx_I
        obtain ⟨rw12, nx12, b12, bt12, kn12, en12, hR12, hFc12, hgrw12, hgnx12, hp12_0, hp12_1⟩ := hw12
        obtain ⟨h19_12, h20_12, h21_12, h22_12, hbb_12, hbl_12, hb3_12⟩ := hR12
        have qd12 := hFc12.2.1
        have hF12 := hF11.tr hFc12
        exact J_iret (pc := 50) dX8_reach_50 rfl ⟨trivial, ⟨rw12, nx12, b12, bt12, kn12, en12, nI (tW 0 0), ⟨h19_12, h20_12, h21_12, h22_12, hbb_12, hbl_12, hb3_12⟩, hF12, hgrw12, hgnx12, (by first | assumption | exact KX_i (by assumption) (by omega) (by first | rfl | assumption))⟩⟩
set_option maxRecDepth 100000 in
set_option maxHeartbeats 4000000 in
theorem c_X8_isIn {X : jX} (hs : X.1.stackTraces = false) {d : Nat} (hd : 5 ≤ d) {n : Nat} {mv rw nx : Nat → Nat} {b : Nat} {bt : List Int32} {kn en dn rf kk th : Int32} {w : List jC} (hR : RM n mv rw nx b bt kn en dn rf kk th w) (hn1 : 2 ≤ n) (hn2 : n ≤ 7) (gm : ∀ i, mv i < 7) (gr : ∀ i, rw i < 7) (gx : ∀ i, nx i < 7) (s : Int32) (a : Int32) (c : Int32) (hy0 : PM n mv) (hy1 : KX n mv kn bt) {kc ks : Nat} (hkc : 13 ≤ kc) (hks : 2054 ≤ ks) : jMet X mX8_isIn d kc ks [.ref 19, .int s, .int a, .int c] w (pI (fun v => ∃ k : Nat, v = nI k ∧ k < 2) (fun w' => ∃ (rw' : Nat → Nat), ∃ (nx' : Nat → Nat), ∃ (b' : Nat), ∃ (bt' : List Int32), ∃ (kn' : Int32), ∃ (en' : Int32), ∃ (th' : Int32), RM n mv rw' nx' b' bt' kn' en' dn rf kk th' w' ∧ FR b b' w w' ∧ (∀ i, rw' i < 7) ∧ (∀ i, nx' i < 7) ∧ KX n mv kn' bt')) := by
  refine jMet_of hs (by decide +kernel) (Nat.le_of_ble_eq_true rfl) (L := [some (.ref 19), some (.int s), some (.int a), some (.int c)]) rfl ?_
  have hdm : 4 ≤ d - 1 := by omega
  have hdp : d - 1 + 1 ≤ d := by omega
  have hfc := fc_7 hn2
  have hfp := fc_pos n
  obtain ⟨h19, h20, h21, h22, hbb, hbl, hb3⟩ := hR
  have hF : FR b b w w := FR.rf
  refine J_aload_n (pc := 0) dX8_isIn_0 rfl rfl rfl ?_
  refine J_iload_n (pc := 1) dX8_isIn_1 rfl rfl ?_
  refine J_callS0 (pc := 2) (M := mX8_isIn) (as := [.int a]) dX8_isIn_2 fw_X8_isCell fl_X8_108 fs_X8_isCell rfl (c_X8_isCell hs (d := d - 1) (Nat.le_trans (by decide) hdm) (w := w) a (kc := 0) (ks := 0)) hdp (st := [.ref 19]) (Nat.le_of_ble_eq_true rfl) rfl (kr_P fun v1 hv1 => ?_) kx_I
  rcases hv1 with ⟨rfl, hk1_0⟩ | ⟨q1, rfl, hk1_0, rfl⟩
  · refine J_if_neN (pc := 5) (tgt := 12) dX8_isIn_5 (by decide) (by decide) (fun h => absurd h (by decide)) (fun _ => ?_)
    refine J_iconst (pc := 8) (v := nI 1) dX8_isIn_8 (by decide) ?_
    refine J_goto (pc := 9) (tgt := 13) dX8_isIn_9 (by decide) ?_
    refine J_iload_n (pc := 13) dX8_isIn_13 rfl rfl ?_
    refine J_callS0 (pc := 14) (M := mX8_isIn) (as := [.int s]) dX8_isIn_14 fw_X8_isSet fl_X8_134 fs_X8_isSet rfl (c_X8_isSet hs (d := d - 1) (Nat.le_trans (by decide) hdm) (w := w) s (kc := 0) (ks := 0)) hdp (st := [.int (nI 1), .ref 19]) (Nat.le_of_ble_eq_true rfl) rfl (kr_P fun v2 hv2 => ?_) kx_I
    rcases hv2 with ⟨rfl, hk2_0⟩ | ⟨q2, rfl, hk2_0, rfl⟩
    · refine J_if_eqN (pc := 17) (tgt := 29) dX8_isIn_17 (by decide) (by decide) (fun _ => ?_) (fun h => absurd h (by decide))
      refine J_iconst (pc := 29) (v := nI 1) dX8_isIn_29 (by decide) ?_
      refine J_goto (pc := 30) (tgt := 34) dX8_isIn_30 (by decide) ?_
      refine J_callV0 (pc := 34) (M := mX8_isIn) (as := [.int (nI 1), .int (nI 1)]) dX8_isIn_34 fw_X8_isThrown fl_X8_35 fm_X8_isThrown fe_X8_isThrown h19 (by decide) rfl rfl rfl (c_X8_isThrown hs (d := d - 1) (Nat.le_trans (by decide) hdm) (w := w) (n := n) (mv := mv) (rw := rw) (nx := nx) (b := b) (bt := bt) (kn := kn) (en := en) (dn := dn) (rf := rf) (kk := kk) (th := th) ⟨h19, h20, h21, h22, hbb, hbl, hb3⟩ hn1 hn2 gm gr gx 1 1 (by first | assumption | omega) (by first | assumption | omega) (kc := 0) (ks := 0)) hdp (st := []) (Nat.le_of_ble_eq_true rfl) rfl (kr_I fun v3 w3 hv3 hw3 => ?_) kx_I
      obtain ⟨hR3, hFc3⟩ := hw3
      obtain ⟨h19_3, h20_3, h21_3, h22_3, hbb_3, hbl_3, hb3_3⟩ := hR3
      have hF3 := hF.tr hFc3
      subst hv3
      show J X mX8_isIn d kc ks 37 [some (.ref 19), some (.int s), some (.int a), some (.int c)] [.int (nI 1)] w3 _
      refine J_if_neN (pc := 37) (tgt := 53) dX8_isIn_37 (by decide) (by decide) (fun _ => ?_) (fun h => absurd h (by decide))
      refine J_iconst (pc := 53) (v := nI 0) dX8_isIn_53 (by decide) ?_
      exact J_zret (pc := 54) dX8_isIn_54 rfl (nar_b (by first | decide | omega)) ⟨⟨0, rfl, by omega⟩, ⟨rw, nx, b, bt, kn, en, nI (tW 1 1), ⟨h19_3, h20_3, h21_3, h22_3, hbb_3, hbl_3, hb3_3⟩, hF3, gr, gx, (by first | assumption | exact KX_i (by assumption) (by omega) (by first | rfl | assumption))⟩⟩
    · refine J_if_eqN (pc := 17) (tgt := 29) dX8_isIn_17 (by decide) (by decide) (fun h => absurd h (by decide)) (fun _ => ?_)
      refine J_iload_n (pc := 20) dX8_isIn_20 rfl rfl ?_
      refine J_if_lt (pc := 21) (tgt := 29) dX8_isIn_21 (by decide) (fun ht4 => ?_) (fun hf5 => ?_)
      · refine J_iconst (pc := 29) (v := nI 1) dX8_isIn_29 (by decide) ?_
        refine J_goto (pc := 30) (tgt := 34) dX8_isIn_30 (by decide) ?_
        refine J_callV0 (pc := 34) (M := mX8_isIn) (as := [.int (nI 1), .int (nI 1)]) dX8_isIn_34 fw_X8_isThrown fl_X8_35 fm_X8_isThrown fe_X8_isThrown h19 (by decide) rfl rfl rfl (c_X8_isThrown hs (d := d - 1) (Nat.le_trans (by decide) hdm) (w := w) (n := n) (mv := mv) (rw := rw) (nx := nx) (b := b) (bt := bt) (kn := kn) (en := en) (dn := dn) (rf := rf) (kk := kk) (th := th) ⟨h19, h20, h21, h22, hbb, hbl, hb3⟩ hn1 hn2 gm gr gx 1 1 (by first | assumption | omega) (by first | assumption | omega) (kc := 0) (ks := 0)) hdp (st := []) (Nat.le_of_ble_eq_true rfl) rfl (kr_I fun v6 w6 hv6 hw6 => ?_) kx_I
        obtain ⟨hR6, hFc6⟩ := hw6
        obtain ⟨h19_6, h20_6, h21_6, h22_6, hbb_6, hbl_6, hb3_6⟩ := hR6
        have hF6 := hF.tr hFc6
        subst hv6
        show J X mX8_isIn d kc ks 37 [some (.ref 19), some (.int (nI q2)), some (.int a), some (.int c)] [.int (nI 1)] w6 _
        refine J_if_neN (pc := 37) (tgt := 53) dX8_isIn_37 (by decide) (by decide) (fun _ => ?_) (fun h => absurd h (by decide))
        refine J_iconst (pc := 53) (v := nI 0) dX8_isIn_53 (by decide) ?_
        exact J_zret (pc := 54) dX8_isIn_54 rfl (nar_b (by first | decide | omega)) ⟨⟨0, rfl, by omega⟩, ⟨rw, nx, b, bt, kn, en, nI (tW 1 1), ⟨h19_6, h20_6, h21_6, h22_6, hbb_6, hbl_6, hb3_6⟩, hF6, gr, gx, (by first | assumption | exact KX_i (by assumption) (by omega) (by first | rfl | assumption))⟩⟩
      · refine J_iload_n (pc := 24) dX8_isIn_24 rfl rfl ?_
        refine J_iconst (pc := 25) (v := nI 1) dX8_isIn_25 (by decide) ?_
        refine J_icmp_le (pc := 26) (tgt := 33) dX8_isIn_26 (by decide) (fun ht7 => ?_) (fun hf8 => ?_)
        · refine J_iconst (pc := 33) (v := nI 0) dX8_isIn_33 (by decide) ?_
          refine J_callV0 (pc := 34) (M := mX8_isIn) (as := [.int (nI 1), .int (nI 0)]) dX8_isIn_34 fw_X8_isThrown fl_X8_35 fm_X8_isThrown fe_X8_isThrown h19 (by decide) rfl rfl rfl (c_X8_isThrown hs (d := d - 1) (Nat.le_trans (by decide) hdm) (w := w) (n := n) (mv := mv) (rw := rw) (nx := nx) (b := b) (bt := bt) (kn := kn) (en := en) (dn := dn) (rf := rf) (kk := kk) (th := th) ⟨h19, h20, h21, h22, hbb, hbl, hb3⟩ hn1 hn2 gm gr gx 1 0 (by first | assumption | omega) (by first | assumption | omega) (kc := 0) (ks := 0)) hdp (st := []) (Nat.le_of_ble_eq_true rfl) rfl (kr_I fun v9 w9 hv9 hw9 => ?_) kx_I
          obtain ⟨hR9, hFc9⟩ := hw9
          obtain ⟨h19_9, h20_9, h21_9, h22_9, hbb_9, hbl_9, hb3_9⟩ := hR9
          have hF9 := hF.tr hFc9
          subst hv9
          show J X mX8_isIn d kc ks 37 [some (.ref 19), some (.int (nI q2)), some (.int a), some (.int c)] [.int (nI 1)] w9 _
          refine J_if_neN (pc := 37) (tgt := 53) dX8_isIn_37 (by decide) (by decide) (fun _ => ?_) (fun h => absurd h (by decide))
          refine J_iconst (pc := 53) (v := nI 0) dX8_isIn_53 (by decide) ?_
          exact J_zret (pc := 54) dX8_isIn_54 rfl (nar_b (by first | decide | omega)) ⟨⟨0, rfl, by omega⟩, ⟨rw, nx, b, bt, kn, en, nI (tW 1 0), ⟨h19_9, h20_9, h21_9, h22_9, hbb_9, hbl_9, hb3_9⟩, hF9, gr, gx, (by first | assumption | exact KX_i (by assumption) (by omega) (by first | rfl | assumption))⟩⟩
        · refine J_iconst (pc := 29) (v := nI 1) dX8_isIn_29 (by decide) ?_
          refine J_goto (pc := 30) (tgt := 34) dX8_isIn_30 (by decide) ?_
          refine J_callV0 (pc := 34) (M := mX8_isIn) (as := [.int (nI 1), .int (nI 1)]) dX8_isIn_34 fw_X8_isThrown fl_X8_35 fm_X8_isThrown fe_X8_isThrown h19 (by decide) rfl rfl rfl (c_X8_isThrown hs (d := d - 1) (Nat.le_trans (by decide) hdm) (w := w) (n := n) (mv := mv) (rw := rw) (nx := nx) (b := b) (bt := bt) (kn := kn) (en := en) (dn := dn) (rf := rf) (kk := kk) (th := th) ⟨h19, h20, h21, h22, hbb, hbl, hb3⟩ hn1 hn2 gm gr gx 1 1 (by first | assumption | omega) (by first | assumption | omega) (kc := 0) (ks := 0)) hdp (st := []) (Nat.le_of_ble_eq_true rfl) rfl (kr_I fun v10 w10 hv10 hw10 => ?_) kx_I
          obtain ⟨hR10, hFc10⟩ := hw10
          obtain ⟨h19_10, h20_10, h21_10, h22_10, hbb_10, hbl_10, hb3_10⟩ := hR10
          have hF10 := hF.tr hFc10
          subst hv10
          show J X mX8_isIn d kc ks 37 [some (.ref 19), some (.int (nI q2)), some (.int a), some (.int c)] [.int (nI 1)] w10 _
          refine J_if_neN (pc := 37) (tgt := 53) dX8_isIn_37 (by decide) (by decide) (fun _ => ?_) (fun h => absurd h (by decide))
          refine J_iconst (pc := 53) (v := nI 0) dX8_isIn_53 (by decide) ?_
          exact J_zret (pc := 54) dX8_isIn_54 rfl (nar_b (by first | decide | omega)) ⟨⟨0, rfl, by omega⟩, ⟨rw, nx, b, bt, kn, en, nI (tW 1 1), ⟨h19_10, h20_10, h21_10, h22_10, hbb_10, hbl_10, hb3_10⟩, hF10, gr, gx, (by first | assumption | exact KX_i (by assumption) (by omega) (by first | rfl | assumption))⟩⟩
  · refine J_if_neN (pc := 5) (tgt := 12) dX8_isIn_5 (by decide) (by decide) (fun _ => ?_) (fun h => absurd h (by decide))
    refine J_iconst (pc := 12) (v := nI 0) dX8_isIn_12 (by decide) ?_
    refine J_iload_n (pc := 13) dX8_isIn_13 rfl rfl ?_
    refine J_callS0 (pc := 14) (M := mX8_isIn) (as := [.int s]) dX8_isIn_14 fw_X8_isSet fl_X8_134 fs_X8_isSet rfl (c_X8_isSet hs (d := d - 1) (Nat.le_trans (by decide) hdm) (w := w) s (kc := 0) (ks := 0)) hdp (st := [.int (nI 0), .ref 19]) (Nat.le_of_ble_eq_true rfl) rfl (kr_P fun v11 hv11 => ?_) kx_I
    rcases hv11 with ⟨rfl, hk11_0⟩ | ⟨q11, rfl, hk11_0, rfl⟩
    · refine J_if_eqN (pc := 17) (tgt := 29) dX8_isIn_17 (by decide) (by decide) (fun _ => ?_) (fun h => absurd h (by decide))
      refine J_iconst (pc := 29) (v := nI 1) dX8_isIn_29 (by decide) ?_
      refine J_goto (pc := 30) (tgt := 34) dX8_isIn_30 (by decide) ?_
      refine J_callV0 (pc := 34) (M := mX8_isIn) (as := [.int (nI 0), .int (nI 1)]) dX8_isIn_34 fw_X8_isThrown fl_X8_35 fm_X8_isThrown fe_X8_isThrown h19 (by decide) rfl rfl rfl (c_X8_isThrown hs (d := d - 1) (Nat.le_trans (by decide) hdm) (w := w) (n := n) (mv := mv) (rw := rw) (nx := nx) (b := b) (bt := bt) (kn := kn) (en := en) (dn := dn) (rf := rf) (kk := kk) (th := th) ⟨h19, h20, h21, h22, hbb, hbl, hb3⟩ hn1 hn2 gm gr gx 0 1 (by first | assumption | omega) (by first | assumption | omega) (kc := 0) (ks := 0)) hdp (st := []) (Nat.le_of_ble_eq_true rfl) rfl (kr_I fun v12 w12 hv12 hw12 => ?_) kx_I
      obtain ⟨hR12, hFc12⟩ := hw12
      obtain ⟨h19_12, h20_12, h21_12, h22_12, hbb_12, hbl_12, hb3_12⟩ := hR12
      have hF12 := hF.tr hFc12
      subst hv12
      show J X mX8_isIn d kc ks 37 [some (.ref 19), some (.int s), some (.int (nI q1)), some (.int c)] [.int (nI 1)] w12 _
      refine J_if_neN (pc := 37) (tgt := 53) dX8_isIn_37 (by decide) (by decide) (fun _ => ?_) (fun h => absurd h (by decide))
      refine J_iconst (pc := 53) (v := nI 0) dX8_isIn_53 (by decide) ?_
      exact J_zret (pc := 54) dX8_isIn_54 rfl (nar_b (by first | decide | omega)) ⟨⟨0, rfl, by omega⟩, ⟨rw, nx, b, bt, kn, en, nI (tW 0 1), ⟨h19_12, h20_12, h21_12, h22_12, hbb_12, hbl_12, hb3_12⟩, hF12, gr, gx, (by first | assumption | exact KX_i (by assumption) (by omega) (by first | rfl | assumption))⟩⟩
    · refine J_if_eqN (pc := 17) (tgt := 29) dX8_isIn_17 (by decide) (by decide) (fun h => absurd h (by decide)) (fun _ => ?_)
      refine J_iload_n (pc := 20) dX8_isIn_20 rfl rfl ?_
      refine J_if_lt (pc := 21) (tgt := 29) dX8_isIn_21 (by decide) (fun ht13 => ?_) (fun hf14 => ?_)
      · refine J_iconst (pc := 29) (v := nI 1) dX8_isIn_29 (by decide) ?_
        refine J_goto (pc := 30) (tgt := 34) dX8_isIn_30 (by decide) ?_
        refine J_callV0 (pc := 34) (M := mX8_isIn) (as := [.int (nI 0), .int (nI 1)]) dX8_isIn_34 fw_X8_isThrown fl_X8_35 fm_X8_isThrown fe_X8_isThrown h19 (by decide) rfl rfl rfl (c_X8_isThrown hs (d := d - 1) (Nat.le_trans (by decide) hdm) (w := w) (n := n) (mv := mv) (rw := rw) (nx := nx) (b := b) (bt := bt) (kn := kn) (en := en) (dn := dn) (rf := rf) (kk := kk) (th := th) ⟨h19, h20, h21, h22, hbb, hbl, hb3⟩ hn1 hn2 gm gr gx 0 1 (by first | assumption | omega) (by first | assumption | omega) (kc := 0) (ks := 0)) hdp (st := []) (Nat.le_of_ble_eq_true rfl) rfl (kr_I fun v15 w15 hv15 hw15 => ?_) kx_I
        obtain ⟨hR15, hFc15⟩ := hw15
        obtain ⟨h19_15, h20_15, h21_15, h22_15, hbb_15, hbl_15, hb3_15⟩ := hR15
        have hF15 := hF.tr hFc15
        subst hv15
        show J X mX8_isIn d kc ks 37 [some (.ref 19), some (.int (nI q11)), some (.int (nI q1)), some (.int c)] [.int (nI 1)] w15 _
        refine J_if_neN (pc := 37) (tgt := 53) dX8_isIn_37 (by decide) (by decide) (fun _ => ?_) (fun h => absurd h (by decide))
        refine J_iconst (pc := 53) (v := nI 0) dX8_isIn_53 (by decide) ?_
        exact J_zret (pc := 54) dX8_isIn_54 rfl (nar_b (by first | decide | omega)) ⟨⟨0, rfl, by omega⟩, ⟨rw, nx, b, bt, kn, en, nI (tW 0 1), ⟨h19_15, h20_15, h21_15, h22_15, hbb_15, hbl_15, hb3_15⟩, hF15, gr, gx, (by first | assumption | exact KX_i (by assumption) (by omega) (by first | rfl | assumption))⟩⟩
      · refine J_iload_n (pc := 24) dX8_isIn_24 rfl rfl ?_
        refine J_iconst (pc := 25) (v := nI 1) dX8_isIn_25 (by decide) ?_
        refine J_icmp_le (pc := 26) (tgt := 33) dX8_isIn_26 (by decide) (fun ht16 => ?_) (fun hf17 => ?_)
        · refine J_iconst (pc := 33) (v := nI 0) dX8_isIn_33 (by decide) ?_
          refine J_callV0 (pc := 34) (M := mX8_isIn) (as := [.int (nI 0), .int (nI 0)]) dX8_isIn_34 fw_X8_isThrown fl_X8_35 fm_X8_isThrown fe_X8_isThrown h19 (by decide) rfl rfl rfl (c_X8_isThrown hs (d := d - 1) (Nat.le_trans (by decide) hdm) (w := w) (n := n) (mv := mv) (rw := rw) (nx := nx) (b := b) (bt := bt) (kn := kn) (en := en) (dn := dn) (rf := rf) (kk := kk) (th := th) ⟨h19, h20, h21, h22, hbb, hbl, hb3⟩ hn1 hn2 gm gr gx 0 0 (by first | assumption | omega) (by first | assumption | omega) (kc := 0) (ks := 0)) hdp (st := []) (Nat.le_of_ble_eq_true rfl) rfl (kr_I fun v18 w18 hv18 hw18 => ?_) kx_I
          obtain ⟨hR18, hFc18⟩ := hw18
          obtain ⟨h19_18, h20_18, h21_18, h22_18, hbb_18, hbl_18, hb3_18⟩ := hR18
          have hF18 := hF.tr hFc18
          subst hv18
          show J X mX8_isIn d kc ks 37 [some (.ref 19), some (.int (nI q11)), some (.int (nI q1)), some (.int c)] [.int (nI 0)] w18 _
          refine J_if_neN (pc := 37) (tgt := 53) dX8_isIn_37 (by decide) (by decide) (fun h => absurd h (by decide)) (fun _ => ?_)
          refine J_aload_n (pc := 40) dX8_isIn_40 rfl rfl rfl ?_
          refine J_iload_n (pc := 41) dX8_isIn_41 rfl rfl ?_
          refine J_iload_n (pc := 42) dX8_isIn_42 rfl rfl ?_
          refine J_callV (pc := 43) (M := mX8_isIn) (as := [.int (nI q11), .int (nI q1)]) dX8_isIn_43 fw_X8_isInNow fl_X8_185 fm_X8_isInNow fe_X8_isInNow h19_18 (by decide) rfl rfl rfl (c_X8_isInNow hs (d := d - 1) (Nat.le_trans (by decide) hdm) (w := w18) (n := n) (mv := mv) (rw := rw) (nx := nx) (b := b) (bt := bt) (kn := kn) (en := en) (dn := dn) (rf := rf) (kk := kk) (th := nI (tW 0 0)) ⟨h19_18, h20_18, h21_18, h22_18, hbb_18, hbl_18, hb3_18⟩ hn1 hn2 gm gr gx q11 q1 (by first | assumption | omega) (by first | assumption | omega) (by first | assumption | omega) (by first | assumption | omega) (kc := 13) (ks := 2054) (Nat.le_refl _) (Nat.le_refl _)) hdp (by omega) (by omega) (st := []) (Nat.le_of_ble_eq_true rfl) rfl (kr_I fun v19 w19 hv19 hw19 => ?_) kx_I
          obtain ⟨rw19, nx19, b19, bt19, kn19, en19, hR19, hFc19, hgrw19, hgnx19, hp19_0, hp19_1⟩ := hw19
          obtain ⟨h19_19, h20_19, h21_19, h22_19, hbb_19, hbl_19, hb3_19⟩ := hR19
          have qd19 := hFc19.2.1
          have hF19 := hF18.tr hFc19
          obtain ⟨k19, rfl, hk19⟩ := hv19
          refine J_if_eqN (pc := 46) (tgt := 53) dX8_isIn_46 (by decide) (by omega) (fun ht20 => ?_) (fun hf21 => ?_)
          · refine J_iconst (pc := 53) (v := nI 0) dX8_isIn_53 (by decide) ?_
            exact J_zret (pc := 54) dX8_isIn_54 rfl (nar_b (by first | decide | omega)) ⟨⟨0, rfl, by omega⟩, ⟨rw19, nx19, b19, bt19, kn19, en19, nI (tW 0 0), ⟨h19_19, h20_19, h21_19, h22_19, hbb_19, hbl_19, hb3_19⟩, hF19, hgrw19, hgnx19, (by first | assumption | exact KX_i (by assumption) (by omega) (by first | rfl | assumption))⟩⟩
          · refine J_iconst (pc := 49) (v := nI 1) dX8_isIn_49 (by decide) ?_
            refine J_goto (pc := 50) (tgt := 54) dX8_isIn_50 (by decide) ?_
            exact J_zret (pc := 54) dX8_isIn_54 rfl (nar_b (by first | decide | omega)) ⟨⟨1, rfl, by omega⟩, ⟨rw19, nx19, b19, bt19, kn19, en19, nI (tW 0 0), ⟨h19_19, h20_19, h21_19, h22_19, hbb_19, hbl_19, hb3_19⟩, hF19, hgrw19, hgnx19, (by first | assumption | exact KX_i (by assumption) (by omega) (by first | rfl | assumption))⟩⟩
        · refine J_iconst (pc := 29) (v := nI 1) dX8_isIn_29 (by decide) ?_
          refine J_goto (pc := 30) (tgt := 34) dX8_isIn_30 (by decide) ?_
          refine J_callV0 (pc := 34) (M := mX8_isIn) (as := [.int (nI 0), .int (nI 1)]) dX8_isIn_34 fw_X8_isThrown fl_X8_35 fm_X8_isThrown fe_X8_isThrown h19 (by decide) rfl rfl rfl (c_X8_isThrown hs (d := d - 1) (Nat.le_trans (by decide) hdm) (w := w) (n := n) (mv := mv) (rw := rw) (nx := nx) (b := b) (bt := bt) (kn := kn) (en := en) (dn := dn) (rf := rf) (kk := kk) (th := th) ⟨h19, h20, h21, h22, hbb, hbl, hb3⟩ hn1 hn2 gm gr gx 0 1 (by first | assumption | omega) (by first | assumption | omega) (kc := 0) (ks := 0)) hdp (st := []) (Nat.le_of_ble_eq_true rfl) rfl (kr_I fun v22 w22 hv22 hw22 => ?_) kx_I
          obtain ⟨hR22, hFc22⟩ := hw22
          obtain ⟨h19_22, h20_22, h21_22, h22_22, hbb_22, hbl_22, hb3_22⟩ := hR22
          have hF22 := hF.tr hFc22
          subst hv22
          show J X mX8_isIn d kc ks 37 [some (.ref 19), some (.int (nI q11)), some (.int (nI q1)), some (.int c)] [.int (nI 1)] w22 _
          refine J_if_neN (pc := 37) (tgt := 53) dX8_isIn_37 (by decide) (by decide) (fun _ => ?_) (fun h => absurd h (by decide))
          refine J_iconst (pc := 53) (v := nI 0) dX8_isIn_53 (by decide) ?_
          exact J_zret (pc := 54) dX8_isIn_54 rfl (nar_b (by first | decide | omega)) ⟨⟨0, rfl, by omega⟩, ⟨rw, nx, b, bt, kn, en, nI (tW 0 1), ⟨h19_22, h20_22, h21_22, h22_22, hbb_22, hbl_22, hb3_22⟩, hF22, gr, gx, (by first | assumption | exact KX_i (by assumption) (by omega) (by first | rfl | assumption))⟩⟩
