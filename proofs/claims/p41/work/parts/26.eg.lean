/-! contracts of the reference: rspec4 -/
set_option maxRecDepth 100000 in
set_option maxHeartbeats 40000000 in
theorem c_X8_rank {X : jX} (hs : X.1.stackTraces = false) {d : Nat} (hd : 5 ≤ d) {n : Nat} {mv rw nx : Nat → Nat} {b : Nat} {bt : List Int32} {kn en dn rf kk th : Int32} {w : List jC} (hR : RM n mv rw nx b bt kn en dn rf kk th w) (hn1 : 2 ≤ n) (hn2 : n ≤ 7) (gm : ∀ i, mv i < 7) (gr : ∀ i, rw i < 7) (gx : ∀ i, nx i < 7) (s : Int32) (a : Int32) (c : Int32) (hy0 : PM n mv) (hy1 : KX n mv kn bt) {kc ks : Nat} (hkc : 13 ≤ kc) (hks : 2054 ≤ ks) : jMet X mX8_rank d kc ks [.ref 19, .int s, .int a, .int c] w (pI (fun _ => True) (fun w' => ∃ (rw' : Nat → Nat), ∃ (nx' : Nat → Nat), ∃ (b' : Nat), ∃ (bt' : List Int32), ∃ (kn' : Int32), ∃ (en' : Int32), ∃ (th' : Int32), RM n mv rw' nx' b' bt' kn' en' dn rf kk th' w' ∧ FR b b' w w' ∧ (∀ i, rw' i < 7) ∧ (∀ i, nx' i < 7) ∧ KX n mv kn' bt')) := by
  refine jMet_of hs (by decide +kernel) (Nat.le_of_ble_eq_true rfl) (L := [some (.ref 19), some (.int s), some (.int a), some (.int c), none, none, none]) rfl ?_
  have hdm : 4 ≤ d - 1 := by omega
  have hdp : d - 1 + 1 ≤ d := by omega
  have hfc := fc_7 hn2
  have hfp := fc_pos n
  obtain ⟨h19, h20, h21, h22, hbb, hbl, hb3⟩ := hR
  have hF : FR b b w w := FR.rf
  refine J_aload_n (pc := 0) dX8_rank_0 rfl rfl rfl ?_
  refine J_iload_n (pc := 1) dX8_rank_1 rfl rfl ?_
  refine J_callS0 (pc := 2) (M := mX8_rank) (as := [.int a]) dX8_rank_2 fw_X8_isCell fl_X8_108 fs_X8_isCell rfl (c_X8_isCell hs (d := d - 1) (Nat.le_trans (by decide) hdm) (w := w) a (kc := 0) (ks := 0)) hdp (st := [.ref 19]) (Nat.le_of_ble_eq_true rfl) rfl (kr_P fun v1 hv1 => ?_) kx_I
  rcases hv1 with ⟨rfl, hk1_0⟩ | ⟨q1, rfl, hk1_0, rfl⟩
  · refine J_if_eqN (pc := 5) (tgt := 15) dX8_rank_5 (by decide) (by decide) (fun _ => ?_) (fun h => absurd h (by decide))
    refine J_iconst (pc := 15) (v := nI 1) dX8_rank_15 (by decide) ?_
    refine J_goto (pc := 16) (tgt := 20) dX8_rank_16 (by decide) ?_
    refine J_iload_n (pc := 20) dX8_rank_20 rfl rfl ?_
    refine J_callS0 (pc := 21) (M := mX8_rank) (as := [.int s]) dX8_rank_21 fw_X8_isSet fl_X8_134 fs_X8_isSet rfl (c_X8_isSet hs (d := d - 1) (Nat.le_trans (by decide) hdm) (w := w) s (kc := 0) (ks := 0)) hdp (st := [.int (nI 1), .ref 19]) (Nat.le_of_ble_eq_true rfl) rfl (kr_P fun v2 hv2 => ?_) kx_I
    rcases hv2 with ⟨rfl, hk2_0⟩ | ⟨q2, rfl, hk2_0, rfl⟩
    · refine J_if_neN (pc := 24) (tgt := 31) dX8_rank_24 (by decide) (by decide) (fun h => absurd h (by decide)) (fun _ => ?_)
      refine J_iconst (pc := 27) (v := nI 1) dX8_rank_27 (by decide) ?_
      refine J_goto (pc := 28) (tgt := 32) dX8_rank_28 (by decide) ?_
      refine J_callV0 (pc := 32) (M := mX8_rank) (as := [.int (nI 1), .int (nI 1)]) dX8_rank_32 fw_X8_isThrown fl_X8_35 fm_X8_isThrown fe_X8_isThrown h19 (by decide) rfl rfl rfl (c_X8_isThrown hs (d := d - 1) (Nat.le_trans (by decide) hdm) (w := w) (n := n) (mv := mv) (rw := rw) (nx := nx) (b := b) (bt := bt) (kn := kn) (en := en) (dn := dn) (rf := rf) (kk := kk) (th := th) ⟨h19, h20, h21, h22, hbb, hbl, hb3⟩ hn1 hn2 gm gr gx 1 1 (by first | assumption | omega) (by first | assumption | omega) (kc := 0) (ks := 0)) hdp (st := []) (Nat.le_of_ble_eq_true rfl) rfl (kr_I fun v3 w3 hv3 hw3 => ?_) kx_I
      obtain ⟨hR3, hFc3⟩ := hw3
      obtain ⟨h19_3, h20_3, h21_3, h22_3, hbb_3, hbl_3, hb3_3⟩ := hR3
      have hF3 := hF.tr hFc3
      subst hv3
      show J X mX8_rank d kc ks 35 [some (.ref 19), some (.int s), some (.int a), some (.int c), none, none, none] [.int (nI 1)] w3 _
      refine J_if_eqN (pc := 35) (tgt := 40) dX8_rank_35 (by decide) (by decide) (fun h => absurd h (by decide)) (fun _ => ?_)
      refine J_iconst (pc := 38) (v := nI 0) dX8_rank_38 (by decide) ?_
      exact J_iret (pc := 39) dX8_rank_39 rfl ⟨trivial, ⟨rw, nx, b, bt, kn, en, nI (tW 1 1), ⟨h19_3, h20_3, h21_3, h22_3, hbb_3, hbl_3, hb3_3⟩, hF3, gr, gx, (by first | assumption | exact KX_i (by assumption) (by omega) (by first | rfl | assumption))⟩⟩
    · refine J_if_neN (pc := 24) (tgt := 31) dX8_rank_24 (by decide) (by decide) (fun _ => ?_) (fun h => absurd h (by decide))
      refine J_iconst (pc := 31) (v := nI 0) dX8_rank_31 (by decide) ?_
      refine J_callV0 (pc := 32) (M := mX8_rank) (as := [.int (nI 1), .int (nI 0)]) dX8_rank_32 fw_X8_isThrown fl_X8_35 fm_X8_isThrown fe_X8_isThrown h19 (by decide) rfl rfl rfl (c_X8_isThrown hs (d := d - 1) (Nat.le_trans (by decide) hdm) (w := w) (n := n) (mv := mv) (rw := rw) (nx := nx) (b := b) (bt := bt) (kn := kn) (en := en) (dn := dn) (rf := rf) (kk := kk) (th := th) ⟨h19, h20, h21, h22, hbb, hbl, hb3⟩ hn1 hn2 gm gr gx 1 0 (by first | assumption | omega) (by first | assumption | omega) (kc := 0) (ks := 0)) hdp (st := []) (Nat.le_of_ble_eq_true rfl) rfl (kr_I fun v4 w4 hv4 hw4 => ?_) kx_I
      obtain ⟨hR4, hFc4⟩ := hw4
      obtain ⟨h19_4, h20_4, h21_4, h22_4, hbb_4, hbl_4, hb3_4⟩ := hR4
      have hF4 := hF.tr hFc4
      subst hv4
      show J X mX8_rank d kc ks 35 [some (.ref 19), some (.int (nI q2)), some (.int a), some (.int c), none, none, none] [.int (nI 1)] w4 _
      refine J_if_eqN (pc := 35) (tgt := 40) dX8_rank_35 (by decide) (by decide) (fun h => absurd h (by decide)) (fun _ => ?_)
      refine J_iconst (pc := 38) (v := nI 0) dX8_rank_38 (by decide) ?_
      exact J_iret (pc := 39) dX8_rank_39 rfl ⟨trivial, ⟨rw, nx, b, bt, kn, en, nI (tW 1 0), ⟨h19_4, h20_4, h21_4, h22_4, hbb_4, hbl_4, hb3_4⟩, hF4, gr, gx, (by first | assumption | exact KX_i (by assumption) (by omega) (by first | rfl | assumption))⟩⟩
  · refine J_if_eqN (pc := 5) (tgt := 15) dX8_rank_5 (by decide) (by decide) (fun h => absurd h (by decide)) (fun _ => ?_)
    refine J_iload_n (pc := 8) dX8_rank_8 rfl rfl ?_
    refine J_callS0 (pc := 9) (M := mX8_rank) (as := [.int c]) dX8_rank_9 fw_X8_isCell fl_X8_108 fs_X8_isCell rfl (c_X8_isCell hs (d := d - 1) (Nat.le_trans (by decide) hdm) (w := w) c (kc := 0) (ks := 0)) hdp (st := [.ref 19]) (Nat.le_of_ble_eq_true rfl) rfl (kr_P fun v5 hv5 => ?_) kx_I
    rcases hv5 with ⟨rfl, hk5_0⟩ | ⟨q5, rfl, hk5_0, rfl⟩
    · refine J_if_neN (pc := 12) (tgt := 19) dX8_rank_12 (by decide) (by decide) (fun h => absurd h (by decide)) (fun _ => ?_)
      refine J_iconst (pc := 15) (v := nI 1) dX8_rank_15 (by decide) ?_
      refine J_goto (pc := 16) (tgt := 20) dX8_rank_16 (by decide) ?_
      refine J_iload_n (pc := 20) dX8_rank_20 rfl rfl ?_
      refine J_callS0 (pc := 21) (M := mX8_rank) (as := [.int s]) dX8_rank_21 fw_X8_isSet fl_X8_134 fs_X8_isSet rfl (c_X8_isSet hs (d := d - 1) (Nat.le_trans (by decide) hdm) (w := w) s (kc := 0) (ks := 0)) hdp (st := [.int (nI 1), .ref 19]) (Nat.le_of_ble_eq_true rfl) rfl (kr_P fun v6 hv6 => ?_) kx_I
      rcases hv6 with ⟨rfl, hk6_0⟩ | ⟨q6, rfl, hk6_0, rfl⟩
      · refine J_if_neN (pc := 24) (tgt := 31) dX8_rank_24 (by decide) (by decide) (fun h => absurd h (by decide)) (fun _ => ?_)
        refine J_iconst (pc := 27) (v := nI 1) dX8_rank_27 (by decide) ?_
        refine J_goto (pc := 28) (tgt := 32) dX8_rank_28 (by decide) ?_
        refine J_callV0 (pc := 32) (M := mX8_rank) (as := [.int (nI 1), .int (nI 1)]) dX8_rank_32 fw_X8_isThrown fl_X8_35 fm_X8_isThrown fe_X8_isThrown h19 (by decide) rfl rfl rfl (c_X8_isThrown hs (d := d - 1) (Nat.le_trans (by decide) hdm) (w := w) (n := n) (mv := mv) (rw := rw) (nx := nx) (b := b) (bt := bt) (kn := kn) (en := en) (dn := dn) (rf := rf) (kk := kk) (th := th) ⟨h19, h20, h21, h22, hbb, hbl, hb3⟩ hn1 hn2 gm gr gx 1 1 (by first | assumption | omega) (by first | assumption | omega) (kc := 0) (ks := 0)) hdp (st := []) (Nat.le_of_ble_eq_true rfl) rfl (kr_I fun v7 w7 hv7 hw7 => ?_) kx_I
        obtain ⟨hR7, hFc7⟩ := hw7
        obtain ⟨h19_7, h20_7, h21_7, h22_7, hbb_7, hbl_7, hb3_7⟩ := hR7
        have hF7 := hF.tr hFc7
        subst hv7
        show J X mX8_rank d kc ks 35 [some (.ref 19), some (.int s), some (.int (nI q1)), some (.int c), none, none, none] [.int (nI 1)] w7 _
        refine J_if_eqN (pc := 35) (tgt := 40) dX8_rank_35 (by decide) (by decide) (fun h => absurd h (by decide)) (fun _ => ?_)
        refine J_iconst (pc := 38) (v := nI 0) dX8_rank_38 (by decide) ?_
        exact J_iret (pc := 39) dX8_rank_39 rfl ⟨trivial, ⟨rw, nx, b, bt, kn, en, nI (tW 1 1), ⟨h19_7, h20_7, h21_7, h22_7, hbb_7, hbl_7, hb3_7⟩, hF7, gr, gx, (by first | assumption | exact KX_i (by assumption) (by omega) (by first | rfl | assumption))⟩⟩
      · refine J_if_neN (pc := 24) (tgt := 31) dX8_rank_24 (by decide) (by decide) (fun _ => ?_) (fun h => absurd h (by decide))
        refine J_iconst (pc := 31) (v := nI 0) dX8_rank_31 (by decide) ?_
        refine J_callV0 (pc := 32) (M := mX8_rank) (as := [.int (nI 1), .int (nI 0)]) dX8_rank_32 fw_X8_isThrown fl_X8_35 fm_X8_isThrown fe_X8_isThrown h19 (by decide) rfl rfl rfl (c_X8_isThrown hs (d := d - 1) (Nat.le_trans (by decide) hdm) (w := w) (n := n) (mv := mv) (rw := rw) (nx := nx) (b := b) (bt := bt) (kn := kn) (en := en) (dn := dn) (rf := rf) (kk := kk) (th := th) ⟨h19, h20, h21, h22, hbb, hbl, hb3⟩ hn1 hn2 gm gr gx 1 0 (by first | assumption | omega) (by first | assumption | omega) (kc := 0) (ks := 0)) hdp (st := []) (Nat.le_of_ble_eq_true rfl) rfl (kr_I fun v8 w8 hv8 hw8 => ?_) kx_I
        obtain ⟨hR8, hFc8⟩ := hw8
        obtain ⟨h19_8, h20_8, h21_8, h22_8, hbb_8, hbl_8, hb3_8⟩ := hR8
        have hF8 := hF.tr hFc8
        subst hv8
        show J X mX8_rank d kc ks 35 [some (.ref 19), some (.int (nI q6)), some (.int (nI q1)), some (.int c), none, none, none] [.int (nI 1)] w8 _
        refine J_if_eqN (pc := 35) (tgt := 40) dX8_rank_35 (by decide) (by decide) (fun h => absurd h (by decide)) (fun _ => ?_)
        refine J_iconst (pc := 38) (v := nI 0) dX8_rank_38 (by decide) ?_
        exact J_iret (pc := 39) dX8_rank_39 rfl ⟨trivial, ⟨rw, nx, b, bt, kn, en, nI (tW 1 0), ⟨h19_8, h20_8, h21_8, h22_8, hbb_8, hbl_8, hb3_8⟩, hF8, gr, gx, (by first | assumption | exact KX_i (by assumption) (by omega) (by first | rfl | assumption))⟩⟩
    · refine J_if_neN (pc := 12) (tgt := 19) dX8_rank_12 (by decide) (by decide) (fun _ => ?_) (fun h => absurd h (by decide))
      refine J_iconst (pc := 19) (v := nI 0) dX8_rank_19 (by decide) ?_
      refine J_iload_n (pc := 20) dX8_rank_20 rfl rfl ?_
      refine J_callS0 (pc := 21) (M := mX8_rank) (as := [.int s]) dX8_rank_21 fw_X8_isSet fl_X8_134 fs_X8_isSet rfl (c_X8_isSet hs (d := d - 1) (Nat.le_trans (by decide) hdm) (w := w) s (kc := 0) (ks := 0)) hdp (st := [.int (nI 0), .ref 19]) (Nat.le_of_ble_eq_true rfl) rfl (kr_P fun v9 hv9 => ?_) kx_I
      rcases hv9 with ⟨rfl, hk9_0⟩ | ⟨q9, rfl, hk9_0, rfl⟩
      · refine J_if_neN (pc := 24) (tgt := 31) dX8_rank_24 (by decide) (by decide) (fun h => absurd h (by decide)) (fun _ => ?_)
        refine J_iconst (pc := 27) (v := nI 1) dX8_rank_27 (by decide) ?_
        refine J_goto (pc := 28) (tgt := 32) dX8_rank_28 (by decide) ?_
        refine J_callV0 (pc := 32) (M := mX8_rank) (as := [.int (nI 0), .int (nI 1)]) dX8_rank_32 fw_X8_isThrown fl_X8_35 fm_X8_isThrown fe_X8_isThrown h19 (by decide) rfl rfl rfl (c_X8_isThrown hs (d := d - 1) (Nat.le_trans (by decide) hdm) (w := w) (n := n) (mv := mv) (rw := rw) (nx := nx) (b := b) (bt := bt) (kn := kn) (en := en) (dn := dn) (rf := rf) (kk := kk) (th := th) ⟨h19, h20, h21, h22, hbb, hbl, hb3⟩ hn1 hn2 gm gr gx 0 1 (by first | assumption | omega) (by first | assumption | omega) (kc := 0) (ks := 0)) hdp (st := []) (Nat.le_of_ble_eq_true rfl) rfl (kr_I fun v10 w10 hv10 hw10 => ?_) kx_I
        obtain ⟨hR10, hFc10⟩ := hw10
        obtain ⟨h19_10, h20_10, h21_10, h22_10, hbb_10, hbl_10, hb3_10⟩ := hR10
        have hF10 := hF.tr hFc10
        subst hv10
        show J X mX8_rank d kc ks 35 [some (.ref 19), some (.int s), some (.int (nI q1)), some (.int (nI q5)), none, none, none] [.int (nI 1)] w10 _
        refine J_if_eqN (pc := 35) (tgt := 40) dX8_rank_35 (by decide) (by decide) (fun h => absurd h (by decide)) (fun _ => ?_)
        refine J_iconst (pc := 38) (v := nI 0) dX8_rank_38 (by decide) ?_
        exact J_iret (pc := 39) dX8_rank_39 rfl ⟨trivial, ⟨rw, nx, b, bt, kn, en, nI (tW 0 1), ⟨h19_10, h20_10, h21_10, h22_10, hbb_10, hbl_10, hb3_10⟩, hF10, gr, gx, (by first | assumption | exact KX_i (by assumption) (by omega) (by first | rfl | assumption))⟩⟩
      · refine J_if_neN (pc := 24) (tgt := 31) dX8_rank_24 (by decide) (by decide) (fun _ => ?_) (fun h => absurd h (by decide))
        refine J_iconst (pc := 31) (v := nI 0) dX8_rank_31 (by decide) ?_
        refine J_callV0 (pc := 32) (M := mX8_rank) (as := [.int (nI 0), .int (nI 0)]) dX8_rank_32 fw_X8_isThrown fl_X8_35 fm_X8_isThrown fe_X8_isThrown h19 (by decide) rfl rfl rfl (c_X8_isThrown hs (d := d - 1) (Nat.le_trans (by decide) hdm) (w := w) (n := n) (mv := mv) (rw := rw) (nx := nx) (b := b) (bt := bt) (kn := kn) (en := en) (dn := dn) (rf := rf) (kk := kk) (th := th) ⟨h19, h20, h21, h22, hbb, hbl, hb3⟩ hn1 hn2 gm gr gx 0 0 (by first | assumption | omega) (by first | assumption | omega) (kc := 0) (ks := 0)) hdp (st := []) (Nat.le_of_ble_eq_true rfl) rfl (kr_I fun v11 w11 hv11 hw11 => ?_) kx_I
        obtain ⟨hR11, hFc11⟩ := hw11
        obtain ⟨h19_11, h20_11, h21_11, h22_11, hbb_11, hbl_11, hb3_11⟩ := hR11
        have hF11 := hF.tr hFc11
        subst hv11
        show J X mX8_rank d kc ks 35 [some (.ref 19), some (.int (nI q9)), some (.int (nI q1)), some (.int (nI q5)), none, none, none] [.int (nI 0)] w11 _
        refine J_if_eqN (pc := 35) (tgt := 40) dX8_rank_35 (by decide) (by decide) (fun _ => ?_) (fun h => absurd h (by decide))
        refine J_aload_n (pc := 40) dX8_rank_40 rfl rfl rfl ?_
        refine J_iload_n (pc := 41) dX8_rank_41 rfl rfl ?_
        refine J_iload_n (pc := 42) dX8_rank_42 rfl rfl ?_
        refine J_callV (pc := 43) (M := mX8_rank) (as := [.int (nI q9), .int (nI q5)]) dX8_rank_43 fw_X8_isInNow fl_X8_185 fm_X8_isInNow fe_X8_isInNow h19_11 (by decide) rfl rfl rfl (c_X8_isInNow hs (d := d - 1) (Nat.le_trans (by decide) hdm) (w := w11) (n := n) (mv := mv) (rw := rw) (nx := nx) (b := b) (bt := bt) (kn := kn) (en := en) (dn := dn) (rf := rf) (kk := kk) (th := nI (tW 0 0)) ⟨h19_11, h20_11, h21_11, h22_11, hbb_11, hbl_11, hb3_11⟩ hn1 hn2 gm gr gx q9 q5 (by first | assumption | omega) (by first | assumption | omega) (by first | assumption | omega) (by first | assumption | omega) (kc := 13) (ks := 2054) (Nat.le_refl _) (Nat.le_refl _)) hdp (by omega) (by omega) (st := []) (Nat.le_of_ble_eq_true rfl) rfl (kr_I fun v12 w12 hv12 hw12 => ?_) kx_I
        obtain ⟨rw12, nx12, b12, bt12, kn12, en12, hR12, hFc12, hgrw12, hgnx12, hp12_0, hp12_1⟩ := hw12
        obtain ⟨h19_12, h20_12, h21_12, h22_12, hbb_12, hbl_12, hb3_12⟩ := hR12
        have qd12 := hFc12.2.1
        have hF12 := hF11.tr hFc12
        obtain ⟨k12, rfl, hk12⟩ := hv12
        refine J_if_neN (pc := 46) (tgt := 51) dX8_rank_46 (by decide) (by omega) (fun ht13 => ?_) (fun hf14 => ?_)
        · refine J_iconst (pc := 51) (v := nI 0) dX8_rank_51 (by decide) ?_
          refine J_istore (pc := 52) dX8_rank_52 (by decide) rfl ?_
          show J X mX8_rank d (kc - 13) (ks - 2054) 54 [some (.ref 19), some (.int (nI q9)), some (.int (nI q1)), some (.int (nI q5)), some (.int (nI 0)), none, none] [] w12 _
          refine J_aload_n (pc := 54) dX8_rank_54 rfl rfl rfl ?_
          refine J_iconst (pc := 55) (v := nI 0) dX8_rank_55 (by decide) ?_
          refine J_callV0 (pc := 56) (M := mX8_rank) (as := [.int (nI 0)]) dX8_rank_56 fw_X8_from fl_X8_137 fm_X8_from fe_X8_from h19_12 (by decide) rfl rfl rfl (c_X8_from hs (d := d - 1) (Nat.le_trans (by decide) hdm) (w := w12) (n := n) (mv := mv) (rw := rw12) (nx := nx12) (b := b12) (bt := bt12) (kn := kn12) (en := en12) (dn := dn) (rf := rf) (kk := kk) (th := nI (tW 0 0)) ⟨h19_12, h20_12, h21_12, h22_12, hbb_12, hbl_12, hb3_12⟩ hn1 hn2 gm hgrw12 hgnx12 0 (by first | assumption | omega) (kc := 0) (ks := 0)) hdp (st := []) (Nat.le_of_ble_eq_true rfl) rfl (kr_P fun v15 hv15 => ?_) kx_I
          rcases hv15 with ⟨rfl, hk15_0⟩ | ⟨q15, rfl, hk15_0, hk15_1, hk15_2, hk15_3⟩
          · refine J_istore (pc := 59) dX8_rank_59 (by decide) rfl ?_
            show J X mX8_rank d (kc - 13) (ks - 2054) 61 [some (.ref 19), some (.int (nI q9)), some (.int (nI q1)), some (.int (nI q5)), some (.int (nI 0)), some (.int (-1)), none] [] w12 _
            have lp61_16 : ∀ (fuel : Nat) (w17 : List jC) (rw_61 : Nat → Nat) (z4 : Int32) (c5 : Nat), (RM n mv rw_61 nx12 b12 bt12 kn12 en12 dn rf kk (nI (tW 0 0)) w17) → (FR b b12 w w17) → (∀ i, rw_61 i < 7) → (c5 ≤ fc n) → (mu (fc n) c5 < fuel) → J X mX8_rank d (kc - 13) (ks - 2054) 61 [some (.ref 19), some (.int (nI q9)), some (.int (nI q1)), some (.int (nI q5)), some (.int z4), some (.int (nI c5 + Int32.ofInt (-1))), none] [] w17 (pI (fun _ => True) (fun w' => ∃ (rw' : Nat → Nat), ∃ (nx' : Nat → Nat), ∃ (b' : Nat), ∃ (bt' : List Int32), ∃ (kn' : Int32), ∃ (en' : Int32), ∃ (th' : Int32), RM n mv rw' nx' b' bt' kn' en' dn rf kk th' w' ∧ FR b b' w w' ∧ (∀ i, rw' i < 7) ∧ (∀ i, nx' i < 7) ∧ KX n mv kn' bt')) := by
              intro fuellp61_16
              induction fuellp61_16 with
              | zero => intros; omega
              | succ fuellp61_16 ihlp61_16 =>
                intro w17 rw_61 z4 c5 hR18 hF19 gr20 hv61_0 hf21
                obtain ⟨h19_22, h20_22, h21_22, h22_22, hb_22, hbl_22, hb3_22⟩ := hR18
                refine J_iload (pc := 61) dX8_rank_61 rfl ?_
                refine J_if_ltM (pc := 63) (tgt := 173) dX8_rank_63 (by decide) (by omega) (fun ht23 => ?_) (fun hf24 => ?_)
                · refine J_iload (pc := 173) dX8_rank_173 rfl ?_
                  exact J_iret (pc := 175) dX8_rank_175 rfl ⟨trivial, ⟨rw_61, nx12, b12, bt12, kn12, en12, nI (tW 0 0), ⟨h19_22, h20_22, h21_22, h22_22, hb_22, hbl_22, hb3_22⟩, hF19, gr20, hgnx12, (by first | assumption | exact KX_i (by assumption) (by omega) (by first | rfl | assumption))⟩⟩
                · rw [nI_m1 hf24]
                  refine J_aload_n (pc := 66) dX8_rank_66 rfl rfl rfl ?_
                  refine J_iload (pc := 67) dX8_rank_67 rfl ?_
                  refine J_aload_n (pc := 69) dX8_rank_69 rfl rfl rfl ?_
                  refine J_get (pc := 70) (k := 2) dX8_rank_70 kC9 (by decide) ff_X8_17 h19_22 rfl ?_
                  refine J_callV0 (pc := 73) (M := mX8_rank) (as := [.int (nI (c5 - 1)), .ref 21]) dX8_rank_73 fw_X8_rowOf fl_X8_78 fm_X8_rowOf fe_X8_rowOf h19_22 (by decide) rfl rfl rfl (c_X8_rowOf hs (d := d - 1) (Nat.le_trans (by decide) hdm) (w := w17) (n := n) (mv := mv) (rw := rw_61) (nx := nx12) (b := b12) (bt := bt12) (kn := kn12) (en := en12) (dn := dn) (rf := rf) (kk := kk) (th := nI (tW 0 0)) ⟨h19_22, h20_22, h21_22, h22_22, hb_22, hbl_22, hb3_22⟩ hn1 hn2 gm gr20 hgnx12 (c5 - 1) (by first | assumption | omega) (kc := 0) (ks := 0)) hdp (st := []) (Nat.le_of_ble_eq_true rfl) rfl (kr_V fun w25 hw25 => ?_) kx_V
                  obtain ⟨rw25, hR25, hFc25, hgrw25, hp25_0⟩ := hw25
                  obtain ⟨h19_25, h20_25, h21_25, h22_25, hbb_25, hbl_25, hb3_25⟩ := hR25
                  have hF25 := hF19.tr hFc25
                  refine J_iconst (pc := 76) (v := nI 0) dX8_rank_76 (by decide) ?_
                  refine J_istore (pc := 77) dX8_rank_77 (by decide) rfl ?_
                  show J X mX8_rank d (kc - 13) (ks - 2054) 79 [some (.ref 19), some (.int (nI q9)), some (.int (nI q1)), some (.int (nI q5)), some (.int z4), some (.int (nI (c5 - 1))), some (.int (nI 0))] [] w25 _
                  have lp79_26 : ∀ (fuel : Nat) (c6 : Nat), (c6 ≤ n) → (n - c6 < fuel) → J X mX8_rank d (kc - 13) (ks - 2054) 79 [some (.ref 19), some (.int (nI q9)), some (.int (nI q1)), some (.int (nI q5)), some (.int z4), some (.int (nI (c5 - 1))), some (.int (nI c6))] [] w25 (pI (fun _ => True) (fun w' => ∃ (rw' : Nat → Nat), ∃ (nx' : Nat → Nat), ∃ (b' : Nat), ∃ (bt' : List Int32), ∃ (kn' : Int32), ∃ (en' : Int32), ∃ (th' : Int32), RM n mv rw' nx' b' bt' kn' en' dn rf kk th' w' ∧ FR b b' w w' ∧ (∀ i, rw' i < 7) ∧ (∀ i, nx' i < 7) ∧ KX n mv kn' bt')) := by
                    intro fuellp79_26
                    induction fuellp79_26 with
                    | zero => intros; omega
                    | succ fuellp79_26 ihlp79_26 =>
                      intro c6 hv79_0 hf27
                      refine J_iload (pc := 79) dX8_rank_79 rfl ?_
                      refine J_aload_n (pc := 81) dX8_rank_81 rfl rfl rfl ?_
                      refine J_get (pc := 82) (k := 0) dX8_rank_82 kC9 (by decide) ff_X8_7 h19_25 rfl ?_
                      refine J_icmp_geN (pc := 85) (tgt := 121) dX8_rank_85 (by decide) (by omega) (by omega) (fun ht28 => ?_) (fun hf29 => ?_)
                      · refine J_iload (pc := 121) dX8_rank_121 rfl ?_
                        refine J_aload_n (pc := 123) dX8_rank_123 rfl rfl rfl ?_
                        refine J_get (pc := 124) (k := 0) dX8_rank_124 kC9 (by decide) ff_X8_7 h19_25 rfl ?_
                        refine J_icmp_geN (pc := 127) (tgt := 160) dX8_rank_127 (by decide) (by omega) (by omega) (fun ht30 => ?_) (fun hf31 => ?_)
                        · refine J_aload_n (pc := 160) dX8_rank_160 rfl rfl rfl ?_
                          refine J_iload (pc := 161) dX8_rank_161 rfl ?_
                          refine J_iconst (pc := 163) (v := nI 1) dX8_rank_163 (by decide) ?_
                          refine J_iaddN (pc := 164) dX8_rank_164 ?_
                          refine J_callV0 (pc := 165) (M := mX8_rank) (as := [.int (nI ((c5 - 1) + 1))]) dX8_rank_165 fw_X8_from fl_X8_137 fm_X8_from fe_X8_from h19_25 (by decide) rfl rfl rfl (c_X8_from hs (d := d - 1) (Nat.le_trans (by decide) hdm) (w := w25) (n := n) (mv := mv) (rw := rw25) (nx := nx12) (b := b12) (bt := bt12) (kn := kn12) (en := en12) (dn := dn) (rf := rf) (kk := kk) (th := nI (tW 0 0)) ⟨h19_25, h20_25, h21_25, h22_25, hbb_25, hbl_25, hb3_25⟩ hn1 hn2 gm hgrw25 hgnx12 ((c5 - 1) + 1) (by first | assumption | omega) (kc := 0) (ks := 0)) hdp (st := []) (Nat.le_of_ble_eq_true rfl) rfl (kr_P fun v32 hv32 => ?_) kx_I
                          rcases hv32 with ⟨rfl, hk32_0⟩ | ⟨q32, rfl, hk32_0, hk32_1, hk32_2, hk32_3⟩
                          · refine J_istore (pc := 168) dX8_rank_168 (by decide) rfl ?_
                            show J X mX8_rank d (kc - 13) (ks - 2054) 170 [some (.ref 19), some (.int (nI q9)), some (.int (nI q1)), some (.int (nI q5)), some (.int z4), some (.int (-1)), some (.int (nI c6))] [] w25 _
                            refine J_goto (pc := 170) (tgt := 61) dX8_rank_170 (by decide) ?_
                            exact J_sub (L' := [some (.ref 19), some (.int (nI q9)), some (.int (nI q1)), some (.int (nI q5)), some (.int z4), some (.int (nI 0 + Int32.ofInt (-1))), none]) ⟨rfl, ⟨rfl, ⟨rfl, ⟨rfl, ⟨rfl, ⟨(congrArg (fun z => some (Value.int z)) (by decide : (-1 : Int32) = nI 0 + Int32.ofInt (-1))), trivial⟩⟩⟩⟩⟩⟩ (ihlp61_16 w25 rw25 z4 0 ⟨h19_25, h20_25, h21_25, h22_25, hbb_25, hbl_25, hb3_25⟩ hF25 hgrw25 (by first | assumption | omega) (by exact mu_dec (by assumption) (by omega) (by omega) (by omega)))
                          · refine J_istore (pc := 168) dX8_rank_168 (by decide) rfl ?_
                            show J X mX8_rank d (kc - 13) (ks - 2054) 170 [some (.ref 19), some (.int (nI q9)), some (.int (nI q1)), some (.int (nI q5)), some (.int z4), some (.int (nI q32)), some (.int (nI c6))] [] w25 _
                            refine J_goto (pc := 170) (tgt := 61) dX8_rank_170 (by decide) ?_
                            exact J_sub (L' := [some (.ref 19), some (.int (nI q9)), some (.int (nI q1)), some (.int (nI q5)), some (.int z4), some (.int (nI (q32 + 1) + Int32.ofInt (-1))), none]) ⟨rfl, ⟨rfl, ⟨rfl, ⟨rfl, ⟨rfl, ⟨(congrArg (fun z => some (Value.int z)) (nI_n1 q32)), trivial⟩⟩⟩⟩⟩⟩ (ihlp61_16 w25 rw25 z4 (q32 + 1) ⟨h19_25, h20_25, h21_25, h22_25, hbb_25, hbl_25, hb3_25⟩ hF25 hgrw25 (by first | assumption | omega) (by exact mu_dec (by assumption) (by omega) (by omega) (by omega)))
                        · refine J_aload_n (pc := 130) dX8_rank_130 rfl rfl rfl ?_
                          refine J_get (pc := 131) (k := 2) dX8_rank_131 kC9 (by decide) ff_X8_17 h19_25 rfl ?_
                          refine J_aload_n (pc := 134) dX8_rank_134 rfl rfl rfl ?_
                          refine J_iload_n (pc := 135) dX8_rank_135 rfl rfl ?_
                          refine J_iload (pc := 136) dX8_rank_136 rfl ?_
                          refine J_callV0 (pc := 138) (M := mX8_rank) (as := [.int (nI q1), .int (nI c6)]) dX8_rank_138 fw_X8_at fl_X8_82 fm_X8_at fe_X8_at h19_25 (by decide) rfl rfl rfl (c_X8_at hs (d := d - 1) (Nat.le_trans (by decide) hdm) (w := w25) (n := n) (mv := mv) (rw := rw25) (nx := nx12) (b := b12) (bt := bt12) (kn := kn12) (en := en12) (dn := dn) (rf := rf) (kk := kk) (th := nI (tW 0 0)) ⟨h19_25, h20_25, h21_25, h22_25, hbb_25, hbl_25, hb3_25⟩ hn1 hn2 gm hgrw25 hgnx12 q1 c6 (by first | assumption | omega) (by first | assumption | omega) (kc := 0) (ks := 0)) hdp (st := [.ref 21]) (Nat.le_of_ble_eq_true rfl) rfl (kr_P fun v33 hv33 => ?_) kx_I
                          subst hv33
                          have hq34 := gm (q1 * 7 + c6)
                          refine J_ialdF (pc := 141) dX8_rank_141 h21_25 (by omega) (by decide) ?_
                          have hq35 := hgrw25 (mv (q1 * 7 + c6))
                          refine J_aload_n (pc := 142) dX8_rank_142 rfl rfl rfl ?_
                          refine J_iload_n (pc := 143) dX8_rank_143 rfl rfl ?_
                          refine J_aload_n (pc := 144) dX8_rank_144 rfl rfl rfl ?_
                          refine J_iload_n (pc := 145) dX8_rank_145 rfl rfl ?_
                          refine J_iload (pc := 146) dX8_rank_146 rfl ?_
                          refine J_callV0 (pc := 148) (M := mX8_rank) (as := [.int (nI q1), .int (nI c6)]) dX8_rank_148 fw_X8_at fl_X8_82 fm_X8_at fe_X8_at h19_25 (by decide) rfl rfl rfl (c_X8_at hs (d := d - 1) (Nat.le_trans (by decide) hdm) (w := w25) (n := n) (mv := mv) (rw := rw25) (nx := nx12) (b := b12) (bt := bt12) (kn := kn12) (en := en12) (dn := dn) (rf := rf) (kk := kk) (th := nI (tW 0 0)) ⟨h19_25, h20_25, h21_25, h22_25, hbb_25, hbl_25, hb3_25⟩ hn1 hn2 gm hgrw25 hgnx12 q1 c6 (by first | assumption | omega) (by first | assumption | omega) (kc := 0) (ks := 0)) hdp (st := [.int (nI q5), .ref 19, .int (nI (rw25 (mv (q1 * 7 + c6))))]) (Nat.le_of_ble_eq_true rfl) rfl (kr_P fun v36 hv36 => ?_) kx_I
                          subst hv36
                          have hq37 := gm (q1 * 7 + c6)
                          refine J_callV0 (pc := 151) (M := mX8_rank) (as := [.int (nI q5), .int (nI (mv (q1 * 7 + c6)))]) dX8_rank_151 fw_X8_at fl_X8_82 fm_X8_at fe_X8_at h19_25 (by decide) rfl rfl rfl (c_X8_at hs (d := d - 1) (Nat.le_trans (by decide) hdm) (w := w25) (n := n) (mv := mv) (rw := rw25) (nx := nx12) (b := b12) (bt := bt12) (kn := kn12) (en := en12) (dn := dn) (rf := rf) (kk := kk) (th := nI (tW 0 0)) ⟨h19_25, h20_25, h21_25, h22_25, hbb_25, hbl_25, hb3_25⟩ hn1 hn2 gm hgrw25 hgnx12 q5 (mv (q1 * 7 + c6)) (by first | assumption | omega) (by first | assumption | omega) (kc := 0) (ks := 0)) hdp (st := [.int (nI (rw25 (mv (q1 * 7 + c6))))]) (Nat.le_of_ble_eq_true rfl) rfl (kr_P fun v38 hv38 => ?_) kx_I
                          subst hv38
                          have hq39 := gm (q5 * 7 + (mv (q1 * 7 + c6)))
                          refine J_icmp_geN (pc := 154) (tgt := 160) dX8_rank_154 (by decide) (by omega) (by omega) (fun ht40 => ?_) (fun hf41 => ?_)
                          · refine J_aload_n (pc := 160) dX8_rank_160 rfl rfl rfl ?_
                            refine J_iload (pc := 161) dX8_rank_161 rfl ?_
                            refine J_iconst (pc := 163) (v := nI 1) dX8_rank_163 (by decide) ?_
                            refine J_iaddN (pc := 164) dX8_rank_164 ?_
                            refine J_callV0 (pc := 165) (M := mX8_rank) (as := [.int (nI ((c5 - 1) + 1))]) dX8_rank_165 fw_X8_from fl_X8_137 fm_X8_from fe_X8_from h19_25 (by decide) rfl rfl rfl (c_X8_from hs (d := d - 1) (Nat.le_trans (by decide) hdm) (w := w25) (n := n) (mv := mv) (rw := rw25) (nx := nx12) (b := b12) (bt := bt12) (kn := kn12) (en := en12) (dn := dn) (rf := rf) (kk := kk) (th := nI (tW 0 0)) ⟨h19_25, h20_25, h21_25, h22_25, hbb_25, hbl_25, hb3_25⟩ hn1 hn2 gm hgrw25 hgnx12 ((c5 - 1) + 1) (by first | assumption | omega) (kc := 0) (ks := 0)) hdp (st := []) (Nat.le_of_ble_eq_true rfl) rfl (kr_P fun v42 hv42 => ?_) kx_I
                            rcases hv42 with ⟨rfl, hk42_0⟩ | ⟨q42, rfl, hk42_0, hk42_1, hk42_2, hk42_3⟩
                            · refine J_istore (pc := 168) dX8_rank_168 (by decide) rfl ?_
                              show J X mX8_rank d (kc - 13) (ks - 2054) 170 [some (.ref 19), some (.int (nI q9)), some (.int (nI q1)), some (.int (nI q5)), some (.int z4), some (.int (-1)), some (.int (nI c6))] [] w25 _
                              refine J_goto (pc := 170) (tgt := 61) dX8_rank_170 (by decide) ?_
                              exact J_sub (L' := [some (.ref 19), some (.int (nI q9)), some (.int (nI q1)), some (.int (nI q5)), some (.int z4), some (.int (nI 0 + Int32.ofInt (-1))), none]) ⟨rfl, ⟨rfl, ⟨rfl, ⟨rfl, ⟨rfl, ⟨(congrArg (fun z => some (Value.int z)) (by decide : (-1 : Int32) = nI 0 + Int32.ofInt (-1))), trivial⟩⟩⟩⟩⟩⟩ (ihlp61_16 w25 rw25 z4 0 ⟨h19_25, h20_25, h21_25, h22_25, hbb_25, hbl_25, hb3_25⟩ hF25 hgrw25 (by first | assumption | omega) (by exact mu_dec (by assumption) (by omega) (by omega) (by omega)))
                            · refine J_istore (pc := 168) dX8_rank_168 (by decide) rfl ?_
                              show J X mX8_rank d (kc - 13) (ks - 2054) 170 [some (.ref 19), some (.int (nI q9)), some (.int (nI q1)), some (.int (nI q5)), some (.int z4), some (.int (nI q42)), some (.int (nI c6))] [] w25 _
                              refine J_goto (pc := 170) (tgt := 61) dX8_rank_170 (by decide) ?_
                              exact J_sub (L' := [some (.ref 19), some (.int (nI q9)), some (.int (nI q1)), some (.int (nI q5)), some (.int z4), some (.int (nI (q42 + 1) + Int32.ofInt (-1))), none]) ⟨rfl, ⟨rfl, ⟨rfl, ⟨rfl, ⟨rfl, ⟨(congrArg (fun z => some (Value.int z)) (nI_n1 q42)), trivial⟩⟩⟩⟩⟩⟩ (ihlp61_16 w25 rw25 z4 (q42 + 1) ⟨h19_25, h20_25, h21_25, h22_25, hbb_25, hbl_25, hb3_25⟩ hF25 hgrw25 (by first | assumption | omega) (by exact mu_dec (by assumption) (by omega) (by omega) (by omega)))
                          · refine J_iinc (pc := 157) dX8_rank_157 rfl rfl (by decide) rfl ?_
                            generalize z4 + Int32.ofInt 1 = x43
                            show J X mX8_rank d (kc - 13) (ks - 2054) 160 [some (.ref 19), some (.int (nI q9)), some (.int (nI q1)), some (.int (nI q5)), some (.int x43), some (.int (nI (c5 - 1))), some (.int (nI c6))] [] w25 _
                            refine J_aload_n (pc := 160) dX8_rank_160 rfl rfl rfl ?_
                            refine J_iload (pc := 161) dX8_rank_161 rfl ?_
                            refine J_iconst (pc := 163) (v := nI 1) dX8_rank_163 (by decide) ?_
                            refine J_iaddN (pc := 164) dX8_rank_164 ?_
                            refine J_callV0 (pc := 165) (M := mX8_rank) (as := [.int (nI ((c5 - 1) + 1))]) dX8_rank_165 fw_X8_from fl_X8_137 fm_X8_from fe_X8_from h19_25 (by decide) rfl rfl rfl (c_X8_from hs (d := d - 1) (Nat.le_trans (by decide) hdm) (w := w25) (n := n) (mv := mv) (rw := rw25) (nx := nx12) (b := b12) (bt := bt12) (kn := kn12) (en := en12) (dn := dn) (rf := rf) (kk := kk) (th := nI (tW 0 0)) ⟨h19_25, h20_25, h21_25, h22_25, hbb_25, hbl_25, hb3_25⟩ hn1 hn2 gm hgrw25 hgnx12 ((c5 - 1) + 1) (by first | assumption | omega) (kc := 0) (ks := 0)) hdp (st := []) (Nat.le_of_ble_eq_true rfl) rfl (kr_P fun v44 hv44 => ?_) kx_I
                            rcases hv44 with ⟨rfl, hk44_0⟩ | ⟨q44, rfl, hk44_0, hk44_1, hk44_2, hk44_3⟩
                            · refine J_istore (pc := 168) dX8_rank_168 (by decide) rfl ?_
                              show J X mX8_rank d (kc - 13) (ks - 2054) 170 [some (.ref 19), some (.int (nI q9)), some (.int (nI q1)), some (.int (nI q5)), some (.int x43), some (.int (-1)), some (.int (nI c6))] [] w25 _
                              refine J_goto (pc := 170) (tgt := 61) dX8_rank_170 (by decide) ?_
                              exact J_sub (L' := [some (.ref 19), some (.int (nI q9)), some (.int (nI q1)), some (.int (nI q5)), some (.int x43), some (.int (nI 0 + Int32.ofInt (-1))), none]) ⟨rfl, ⟨rfl, ⟨rfl, ⟨rfl, ⟨rfl, ⟨(congrArg (fun z => some (Value.int z)) (by decide : (-1 : Int32) = nI 0 + Int32.ofInt (-1))), trivial⟩⟩⟩⟩⟩⟩ (ihlp61_16 w25 rw25 x43 0 ⟨h19_25, h20_25, h21_25, h22_25, hbb_25, hbl_25, hb3_25⟩ hF25 hgrw25 (by first | assumption | omega) (by exact mu_dec (by assumption) (by omega) (by omega) (by omega)))
                            · refine J_istore (pc := 168) dX8_rank_168 (by decide) rfl ?_
                              show J X mX8_rank d (kc - 13) (ks - 2054) 170 [some (.ref 19), some (.int (nI q9)), some (.int (nI q1)), some (.int (nI q5)), some (.int x43), some (.int (nI q44)), some (.int (nI c6))] [] w25 _
                              refine J_goto (pc := 170) (tgt := 61) dX8_rank_170 (by decide) ?_
                              exact J_sub (L' := [some (.ref 19), some (.int (nI q9)), some (.int (nI q1)), some (.int (nI q5)), some (.int x43), some (.int (nI (q44 + 1) + Int32.ofInt (-1))), none]) ⟨rfl, ⟨rfl, ⟨rfl, ⟨rfl, ⟨rfl, ⟨(congrArg (fun z => some (Value.int z)) (nI_n1 q44)), trivial⟩⟩⟩⟩⟩⟩ (ihlp61_16 w25 rw25 x43 (q44 + 1) ⟨h19_25, h20_25, h21_25, h22_25, hbb_25, hbl_25, hb3_25⟩ hF25 hgrw25 (by first | assumption | omega) (by exact mu_dec (by assumption) (by omega) (by omega) (by omega)))
                      · refine J_aload_n (pc := 88) dX8_rank_88 rfl rfl rfl ?_
                        refine J_get (pc := 89) (k := 2) dX8_rank_89 kC9 (by decide) ff_X8_17 h19_25 rfl ?_
                        refine J_aload_n (pc := 92) dX8_rank_92 rfl rfl rfl ?_
                        refine J_iload_n (pc := 93) dX8_rank_93 rfl rfl ?_
                        refine J_iload (pc := 94) dX8_rank_94 rfl ?_
                        refine J_callV0 (pc := 96) (M := mX8_rank) (as := [.int (nI q1), .int (nI c6)]) dX8_rank_96 fw_X8_at fl_X8_82 fm_X8_at fe_X8_at h19_25 (by decide) rfl rfl rfl (c_X8_at hs (d := d - 1) (Nat.le_trans (by decide) hdm) (w := w25) (n := n) (mv := mv) (rw := rw25) (nx := nx12) (b := b12) (bt := bt12) (kn := kn12) (en := en12) (dn := dn) (rf := rf) (kk := kk) (th := nI (tW 0 0)) ⟨h19_25, h20_25, h21_25, h22_25, hbb_25, hbl_25, hb3_25⟩ hn1 hn2 gm hgrw25 hgnx12 q1 c6 (by first | assumption | omega) (by first | assumption | omega) (kc := 0) (ks := 0)) hdp (st := [.ref 21]) (Nat.le_of_ble_eq_true rfl) rfl (kr_P fun v45 hv45 => ?_) kx_I
                        subst hv45
                        have hq46 := gm (q1 * 7 + c6)
                        refine J_ialdF (pc := 99) dX8_rank_99 h21_25 (by omega) (by decide) ?_
                        have hq47 := hgrw25 (mv (q1 * 7 + c6))
                        refine J_aload_n (pc := 100) dX8_rank_100 rfl rfl rfl ?_
                        refine J_iload_n (pc := 101) dX8_rank_101 rfl rfl ?_
                        refine J_aload_n (pc := 102) dX8_rank_102 rfl rfl rfl ?_
                        refine J_iload_n (pc := 103) dX8_rank_103 rfl rfl ?_
                        refine J_iload (pc := 104) dX8_rank_104 rfl ?_
                        refine J_callV0 (pc := 106) (M := mX8_rank) (as := [.int (nI q1), .int (nI c6)]) dX8_rank_106 fw_X8_at fl_X8_82 fm_X8_at fe_X8_at h19_25 (by decide) rfl rfl rfl (c_X8_at hs (d := d - 1) (Nat.le_trans (by decide) hdm) (w := w25) (n := n) (mv := mv) (rw := rw25) (nx := nx12) (b := b12) (bt := bt12) (kn := kn12) (en := en12) (dn := dn) (rf := rf) (kk := kk) (th := nI (tW 0 0)) ⟨h19_25, h20_25, h21_25, h22_25, hbb_25, hbl_25, hb3_25⟩ hn1 hn2 gm hgrw25 hgnx12 q1 c6 (by first | assumption | omega) (by first | assumption | omega) (kc := 0) (ks := 0)) hdp (st := [.int (nI q5), .ref 19, .int (nI (rw25 (mv (q1 * 7 + c6))))]) (Nat.le_of_ble_eq_true rfl) rfl (kr_P fun v48 hv48 => ?_) kx_I
                        subst hv48
                        have hq49 := gm (q1 * 7 + c6)
                        refine J_callV0 (pc := 109) (M := mX8_rank) (as := [.int (nI q5), .int (nI (mv (q1 * 7 + c6)))]) dX8_rank_109 fw_X8_at fl_X8_82 fm_X8_at fe_X8_at h19_25 (by decide) rfl rfl rfl (c_X8_at hs (d := d - 1) (Nat.le_trans (by decide) hdm) (w := w25) (n := n) (mv := mv) (rw := rw25) (nx := nx12) (b := b12) (bt := bt12) (kn := kn12) (en := en12) (dn := dn) (rf := rf) (kk := kk) (th := nI (tW 0 0)) ⟨h19_25, h20_25, h21_25, h22_25, hbb_25, hbl_25, hb3_25⟩ hn1 hn2 gm hgrw25 hgnx12 q5 (mv (q1 * 7 + c6)) (by first | assumption | omega) (by first | assumption | omega) (kc := 0) (ks := 0)) hdp (st := [.int (nI (rw25 (mv (q1 * 7 + c6))))]) (Nat.le_of_ble_eq_true rfl) rfl (kr_P fun v50 hv50 => ?_) kx_I
                        subst hv50
                        have hq51 := gm (q5 * 7 + (mv (q1 * 7 + c6)))
                        refine J_icmp_neN (pc := 112) (tgt := 121) dX8_rank_112 (by decide) (by omega) (by omega) (fun ht52 => ?_) (fun hf53 => ?_)
                        · refine J_iload (pc := 121) dX8_rank_121 rfl ?_
                          refine J_aload_n (pc := 123) dX8_rank_123 rfl rfl rfl ?_
                          refine J_get (pc := 124) (k := 0) dX8_rank_124 kC9 (by decide) ff_X8_7 h19_25 rfl ?_
                          refine J_icmp_geN (pc := 127) (tgt := 160) dX8_rank_127 (by decide) (by omega) (by omega) (fun ht54 => ?_) (fun hf55 => ?_)
                          · refine J_aload_n (pc := 160) dX8_rank_160 rfl rfl rfl ?_
                            refine J_iload (pc := 161) dX8_rank_161 rfl ?_
                            refine J_iconst (pc := 163) (v := nI 1) dX8_rank_163 (by decide) ?_
                            refine J_iaddN (pc := 164) dX8_rank_164 ?_
                            refine J_callV0 (pc := 165) (M := mX8_rank) (as := [.int (nI ((c5 - 1) + 1))]) dX8_rank_165 fw_X8_from fl_X8_137 fm_X8_from fe_X8_from h19_25 (by decide) rfl rfl rfl (c_X8_from hs (d := d - 1) (Nat.le_trans (by decide) hdm) (w := w25) (n := n) (mv := mv) (rw := rw25) (nx := nx12) (b := b12) (bt := bt12) (kn := kn12) (en := en12) (dn := dn) (rf := rf) (kk := kk) (th := nI (tW 0 0)) ⟨h19_25, h20_25, h21_25, h22_25, hbb_25, hbl_25, hb3_25⟩ hn1 hn2 gm hgrw25 hgnx12 ((c5 - 1) + 1) (by first | assumption | omega) (kc := 0) (ks := 0)) hdp (st := []) (Nat.le_of_ble_eq_true rfl) rfl (kr_P fun v56 hv56 => ?_) kx_I
                            rcases hv56 with ⟨rfl, hk56_0⟩ | ⟨q56, rfl, hk56_0, hk56_1, hk56_2, hk56_3⟩
                            · refine J_istore (pc := 168) dX8_rank_168 (by decide) rfl ?_
                              show J X mX8_rank d (kc - 13) (ks - 2054) 170 [some (.ref 19), some (.int (nI q9)), some (.int (nI q1)), some (.int (nI q5)), some (.int z4), some (.int (-1)), some (.int (nI c6))] [] w25 _
                              refine J_goto (pc := 170) (tgt := 61) dX8_rank_170 (by decide) ?_
                              exact J_sub (L' := [some (.ref 19), some (.int (nI q9)), some (.int (nI q1)), some (.int (nI q5)), some (.int z4), some (.int (nI 0 + Int32.ofInt (-1))), none]) ⟨rfl, ⟨rfl, ⟨rfl, ⟨rfl, ⟨rfl, ⟨(congrArg (fun z => some (Value.int z)) (by decide : (-1 : Int32) = nI 0 + Int32.ofInt (-1))), trivial⟩⟩⟩⟩⟩⟩ (ihlp61_16 w25 rw25 z4 0 ⟨h19_25, h20_25, h21_25, h22_25, hbb_25, hbl_25, hb3_25⟩ hF25 hgrw25 (by first | assumption | omega) (by exact mu_dec (by assumption) (by omega) (by omega) (by omega)))
                            · refine J_istore (pc := 168) dX8_rank_168 (by decide) rfl ?_
                              show J X mX8_rank d (kc - 13) (ks - 2054) 170 [some (.ref 19), some (.int (nI q9)), some (.int (nI q1)), some (.int (nI q5)), some (.int z4), some (.int (nI q56)), some (.int (nI c6))] [] w25 _
                              refine J_goto (pc := 170) (tgt := 61) dX8_rank_170 (by decide) ?_
                              exact J_sub (L' := [some (.ref 19), some (.int (nI q9)), some (.int (nI q1)), some (.int (nI q5)), some (.int z4), some (.int (nI (q56 + 1) + Int32.ofInt (-1))), none]) ⟨rfl, ⟨rfl, ⟨rfl, ⟨rfl, ⟨rfl, ⟨(congrArg (fun z => some (Value.int z)) (nI_n1 q56)), trivial⟩⟩⟩⟩⟩⟩ (ihlp61_16 w25 rw25 z4 (q56 + 1) ⟨h19_25, h20_25, h21_25, h22_25, hbb_25, hbl_25, hb3_25⟩ hF25 hgrw25 (by first | assumption | omega) (by exact mu_dec (by assumption) (by omega) (by omega) (by omega)))
                          · refine J_aload_n (pc := 130) dX8_rank_130 rfl rfl rfl ?_
                            refine J_get (pc := 131) (k := 2) dX8_rank_131 kC9 (by decide) ff_X8_17 h19_25 rfl ?_
                            refine J_aload_n (pc := 134) dX8_rank_134 rfl rfl rfl ?_
                            refine J_iload_n (pc := 135) dX8_rank_135 rfl rfl ?_
                            refine J_iload (pc := 136) dX8_rank_136 rfl ?_
                            refine J_callV0 (pc := 138) (M := mX8_rank) (as := [.int (nI q1), .int (nI c6)]) dX8_rank_138 fw_X8_at fl_X8_82 fm_X8_at fe_X8_at h19_25 (by decide) rfl rfl rfl (c_X8_at hs (d := d - 1) (Nat.le_trans (by decide) hdm) (w := w25) (n := n) (mv := mv) (rw := rw25) (nx := nx12) (b := b12) (bt := bt12) (kn := kn12) (en := en12) (dn := dn) (rf := rf) (kk := kk) (th := nI (tW 0 0)) ⟨h19_25, h20_25, h21_25, h22_25, hbb_25, hbl_25, hb3_25⟩ hn1 hn2 gm hgrw25 hgnx12 q1 c6 (by first | assumption | omega) (by first | assumption | omega) (kc := 0) (ks := 0)) hdp (st := [.ref 21]) (Nat.le_of_ble_eq_true rfl) rfl (kr_P fun v57 hv57 => ?_) kx_I
                            subst hv57
                            have hq58 := gm (q1 * 7 + c6)
                            refine J_ialdF (pc := 141) dX8_rank_141 h21_25 (by omega) (by decide) ?_
                            have hq59 := hgrw25 (mv (q1 * 7 + c6))
                            refine J_aload_n (pc := 142) dX8_rank_142 rfl rfl rfl ?_
                            refine J_iload_n (pc := 143) dX8_rank_143 rfl rfl ?_
                            refine J_aload_n (pc := 144) dX8_rank_144 rfl rfl rfl ?_
                            refine J_iload_n (pc := 145) dX8_rank_145 rfl rfl ?_
                            refine J_iload (pc := 146) dX8_rank_146 rfl ?_
                            refine J_callV0 (pc := 148) (M := mX8_rank) (as := [.int (nI q1), .int (nI c6)]) dX8_rank_148 fw_X8_at fl_X8_82 fm_X8_at fe_X8_at h19_25 (by decide) rfl rfl rfl (c_X8_at hs (d := d - 1) (Nat.le_trans (by decide) hdm) (w := w25) (n := n) (mv := mv) (rw := rw25) (nx := nx12) (b := b12) (bt := bt12) (kn := kn12) (en := en12) (dn := dn) (rf := rf) (kk := kk) (th := nI (tW 0 0)) ⟨h19_25, h20_25, h21_25, h22_25, hbb_25, hbl_25, hb3_25⟩ hn1 hn2 gm hgrw25 hgnx12 q1 c6 (by first | assumption | omega) (by first | assumption | omega) (kc := 0) (ks := 0)) hdp (st := [.int (nI q5), .ref 19, .int (nI (rw25 (mv (q1 * 7 + c6))))]) (Nat.le_of_ble_eq_true rfl) rfl (kr_P fun v60 hv60 => ?_) kx_I
                            subst hv60
                            have hq61 := gm (q1 * 7 + c6)
                            refine J_callV0 (pc := 151) (M := mX8_rank) (as := [.int (nI q5), .int (nI (mv (q1 * 7 + c6)))]) dX8_rank_151 fw_X8_at fl_X8_82 fm_X8_at fe_X8_at h19_25 (by decide) rfl rfl rfl (c_X8_at hs (d := d - 1) (Nat.le_trans (by decide) hdm) (w := w25) (n := n) (mv := mv) (rw := rw25) (nx := nx12) (b := b12) (bt := bt12) (kn := kn12) (en := en12) (dn := dn) (rf := rf) (kk := kk) (th := nI (tW 0 0)) ⟨h19_25, h20_25, h21_25, h22_25, hbb_25, hbl_25, hb3_25⟩ hn1 hn2 gm hgrw25 hgnx12 q5 (mv (q1 * 7 + c6)) (by first | assumption | omega) (by first | assumption | omega) (kc := 0) (ks := 0)) hdp (st := [.int (nI (rw25 (mv (q1 * 7 + c6))))]) (Nat.le_of_ble_eq_true rfl) rfl (kr_P fun v62 hv62 => ?_) kx_I
                            subst hv62
                            have hq63 := gm (q5 * 7 + (mv (q1 * 7 + c6)))
                            refine J_icmp_geN (pc := 154) (tgt := 160) dX8_rank_154 (by decide) (by omega) (by omega) (fun ht64 => ?_) (fun hf65 => ?_)
                            · refine J_aload_n (pc := 160) dX8_rank_160 rfl rfl rfl ?_
                              refine J_iload (pc := 161) dX8_rank_161 rfl ?_
                              refine J_iconst (pc := 163) (v := nI 1) dX8_rank_163 (by decide) ?_
                              refine J_iaddN (pc := 164) dX8_rank_164 ?_
                              refine J_callV0 (pc := 165) (M := mX8_rank) (as := [.int (nI ((c5 - 1) + 1))]) dX8_rank_165 fw_X8_from fl_X8_137 fm_X8_from fe_X8_from h19_25 (by decide) rfl rfl rfl (c_X8_from hs (d := d - 1) (Nat.le_trans (by decide) hdm) (w := w25) (n := n) (mv := mv) (rw := rw25) (nx := nx12) (b := b12) (bt := bt12) (kn := kn12) (en := en12) (dn := dn) (rf := rf) (kk := kk) (th := nI (tW 0 0)) ⟨h19_25, h20_25, h21_25, h22_25, hbb_25, hbl_25, hb3_25⟩ hn1 hn2 gm hgrw25 hgnx12 ((c5 - 1) + 1) (by first | assumption | omega) (kc := 0) (ks := 0)) hdp (st := []) (Nat.le_of_ble_eq_true rfl) rfl (kr_P fun v66 hv66 => ?_) kx_I
                              rcases hv66 with ⟨rfl, hk66_0⟩ | ⟨q66, rfl, hk66_0, hk66_1, hk66_2, hk66_3⟩
                              · refine J_istore (pc := 168) dX8_rank_168 (by decide) rfl ?_
                                show J X mX8_rank d (kc - 13) (ks - 2054) 170 [some (.ref 19), some (.int (nI q9)), some (.int (nI q1)), some (.int (nI q5)), some (.int z4), some (.int (-1)), some (.int (nI c6))] [] w25 _
                                refine J_goto (pc := 170) (tgt := 61) dX8_rank_170 (by decide) ?_
                                exact J_sub (L' := [some (.ref 19), some (.int (nI q9)), some (.int (nI q1)), some (.int (nI q5)), some (.int z4), some (.int (nI 0 + Int32.ofInt (-1))), none]) ⟨rfl, ⟨rfl, ⟨rfl, ⟨rfl, ⟨rfl, ⟨(congrArg (fun z => some (Value.int z)) (by decide : (-1 : Int32) = nI 0 + Int32.ofInt (-1))), trivial⟩⟩⟩⟩⟩⟩ (ihlp61_16 w25 rw25 z4 0 ⟨h19_25, h20_25, h21_25, h22_25, hbb_25, hbl_25, hb3_25⟩ hF25 hgrw25 (by first | assumption | omega) (by exact mu_dec (by assumption) (by omega) (by omega) (by omega)))
                              · refine J_istore (pc := 168) dX8_rank_168 (by decide) rfl ?_
                                show J X mX8_rank d (kc - 13) (ks - 2054) 170 [some (.ref 19), some (.int (nI q9)), some (.int (nI q1)), some (.int (nI q5)), some (.int z4), some (.int (nI q66)), some (.int (nI c6))] [] w25 _
                                refine J_goto (pc := 170) (tgt := 61) dX8_rank_170 (by decide) ?_
                                exact J_sub (L' := [some (.ref 19), some (.int (nI q9)), some (.int (nI q1)), some (.int (nI q5)), some (.int z4), some (.int (nI (q66 + 1) + Int32.ofInt (-1))), none]) ⟨rfl, ⟨rfl, ⟨rfl, ⟨rfl, ⟨rfl, ⟨(congrArg (fun z => some (Value.int z)) (nI_n1 q66)), trivial⟩⟩⟩⟩⟩⟩ (ihlp61_16 w25 rw25 z4 (q66 + 1) ⟨h19_25, h20_25, h21_25, h22_25, hbb_25, hbl_25, hb3_25⟩ hF25 hgrw25 (by first | assumption | omega) (by exact mu_dec (by assumption) (by omega) (by omega) (by omega)))
                            · refine J_iinc (pc := 157) dX8_rank_157 rfl rfl (by decide) rfl ?_
                              generalize z4 + Int32.ofInt 1 = x67
                              show J X mX8_rank d (kc - 13) (ks - 2054) 160 [some (.ref 19), some (.int (nI q9)), some (.int (nI q1)), some (.int (nI q5)), some (.int x67), some (.int (nI (c5 - 1))), some (.int (nI c6))] [] w25 _
                              refine J_aload_n (pc := 160) dX8_rank_160 rfl rfl rfl ?_
                              refine J_iload (pc := 161) dX8_rank_161 rfl ?_
                              refine J_iconst (pc := 163) (v := nI 1) dX8_rank_163 (by decide) ?_
                              refine J_iaddN (pc := 164) dX8_rank_164 ?_
                              refine J_callV0 (pc := 165) (M := mX8_rank) (as := [.int (nI ((c5 - 1) + 1))]) dX8_rank_165 fw_X8_from fl_X8_137 fm_X8_from fe_X8_from h19_25 (by decide) rfl rfl rfl (c_X8_from hs (d := d - 1) (Nat.le_trans (by decide) hdm) (w := w25) (n := n) (mv := mv) (rw := rw25) (nx := nx12) (b := b12) (bt := bt12) (kn := kn12) (en := en12) (dn := dn) (rf := rf) (kk := kk) (th := nI (tW 0 0)) ⟨h19_25, h20_25, h21_25, h22_25, hbb_25, hbl_25, hb3_25⟩ hn1 hn2 gm hgrw25 hgnx12 ((c5 - 1) + 1) (by first | assumption | omega) (kc := 0) (ks := 0)) hdp (st := []) (Nat.le_of_ble_eq_true rfl) rfl (kr_P fun v68 hv68 => ?_) kx_I
                              rcases hv68 with ⟨rfl, hk68_0⟩ | ⟨q68, rfl, hk68_0, hk68_1, hk68_2, hk68_3⟩
                              · refine J_istore (pc := 168) dX8_rank_168 (by decide) rfl ?_
                                show J X mX8_rank d (kc - 13) (ks - 2054) 170 [some (.ref 19), some (.int (nI q9)), some (.int (nI q1)), some (.int (nI q5)), some (.int x67), some (.int (-1)), some (.int (nI c6))] [] w25 _
                                refine J_goto (pc := 170) (tgt := 61) dX8_rank_170 (by decide) ?_
                                exact J_sub (L' := [some (.ref 19), some (.int (nI q9)), some (.int (nI q1)), some (.int (nI q5)), some (.int x67), some (.int (nI 0 + Int32.ofInt (-1))), none]) ⟨rfl, ⟨rfl, ⟨rfl, ⟨rfl, ⟨rfl, ⟨(congrArg (fun z => some (Value.int z)) (by decide : (-1 : Int32) = nI 0 + Int32.ofInt (-1))), trivial⟩⟩⟩⟩⟩⟩ (ihlp61_16 w25 rw25 x67 0 ⟨h19_25, h20_25, h21_25, h22_25, hbb_25, hbl_25, hb3_25⟩ hF25 hgrw25 (by first | assumption | omega) (by exact mu_dec (by assumption) (by omega) (by omega) (by omega)))
                              · refine J_istore (pc := 168) dX8_rank_168 (by decide) rfl ?_
                                show J X mX8_rank d (kc - 13) (ks - 2054) 170 [some (.ref 19), some (.int (nI q9)), some (.int (nI q1)), some (.int (nI q5)), some (.int x67), some (.int (nI q68)), some (.int (nI c6))] [] w25 _
                                refine J_goto (pc := 170) (tgt := 61) dX8_rank_170 (by decide) ?_
                                exact J_sub (L' := [some (.ref 19), some (.int (nI q9)), some (.int (nI q1)), some (.int (nI q5)), some (.int x67), some (.int (nI (q68 + 1) + Int32.ofInt (-1))), none]) ⟨rfl, ⟨rfl, ⟨rfl, ⟨rfl, ⟨rfl, ⟨(congrArg (fun z => some (Value.int z)) (nI_n1 q68)), trivial⟩⟩⟩⟩⟩⟩ (ihlp61_16 w25 rw25 x67 (q68 + 1) ⟨h19_25, h20_25, h21_25, h22_25, hbb_25, hbl_25, hb3_25⟩ hF25 hgrw25 (by first | assumption | omega) (by exact mu_dec (by assumption) (by omega) (by omega) (by omega)))
                        · refine J_iincN (pc := 115) (b := 1) dX8_rank_115 rfl (by decide) (by decide) rfl ?_
                          show J X mX8_rank d (kc - 13) (ks - 2054) 118 [some (.ref 19), some (.int (nI q9)), some (.int (nI q1)), some (.int (nI q5)), some (.int z4), some (.int (nI (c5 - 1))), some (.int (nI (c6 + 1)))] [] w25 _
                          refine J_goto (pc := 118) (tgt := 79) dX8_rank_118 (by decide) ?_
                          exact J_sub (L' := [some (.ref 19), some (.int (nI q9)), some (.int (nI q1)), some (.int (nI q5)), some (.int z4), some (.int (nI (c5 - 1))), some (.int (nI (c6 + 1)))]) ⟨rfl, ⟨rfl, ⟨rfl, ⟨rfl, ⟨rfl, ⟨rfl, ⟨rfl, trivial⟩⟩⟩⟩⟩⟩⟩ (ihlp79_26 (c6 + 1) (by first | assumption | omega) (by omega))
                  exact J_sub (L' := [some (.ref 19), some (.int (nI q9)), some (.int (nI q1)), some (.int (nI q5)), some (.int z4), some (.int (nI (c5 - 1))), some (.int (nI 0))]) ⟨rfl, ⟨rfl, ⟨rfl, ⟨rfl, ⟨rfl, ⟨rfl, ⟨rfl, trivial⟩⟩⟩⟩⟩⟩⟩ (lp79_26 _ 0 (by first | assumption | omega) (Nat.lt_succ_self _))
            exact J_sub (L' := [some (.ref 19), some (.int (nI q9)), some (.int (nI q1)), some (.int (nI q5)), some (.int (nI 0)), some (.int (nI 0 + Int32.ofInt (-1))), none]) ⟨rfl, ⟨rfl, ⟨rfl, ⟨rfl, ⟨rfl, ⟨(congrArg (fun z => some (Value.int z)) (by decide : (-1 : Int32) = nI 0 + Int32.ofInt (-1))), trivial⟩⟩⟩⟩⟩⟩ (lp61_16 _ w12 rw12 (nI 0) 0 ⟨h19_12, h20_12, h21_12, h22_12, hbb_12, hbl_12, hb3_12⟩ hF12 hgrw12 (by first | assumption | omega) (Nat.lt_succ_self _))
          · refine J_istore (pc := 59) dX8_rank_59 (by decide) rfl ?_
            show J X mX8_rank d (kc - 13) (ks - 2054) 61 [some (.ref 19), some (.int (nI q9)), some (.int (nI q1)), some (.int (nI q5)), some (.int (nI 0)), some (.int (nI q15)), none] [] w12 _
            have lp61_69 : ∀ (fuel : Nat) (w70 : List jC) (rw_61 : Nat → Nat) (z4 : Int32) (c5 : Nat), (RM n mv rw_61 nx12 b12 bt12 kn12 en12 dn rf kk (nI (tW 0 0)) w70) → (FR b b12 w w70) → (∀ i, rw_61 i < 7) → (c5 ≤ fc n) → (mu (fc n) c5 < fuel) → J X mX8_rank d (kc - 13) (ks - 2054) 61 [some (.ref 19), some (.int (nI q9)), some (.int (nI q1)), some (.int (nI q5)), some (.int z4), some (.int (nI c5 + Int32.ofInt (-1))), none] [] w70 (pI (fun _ => True) (fun w' => ∃ (rw' : Nat → Nat), ∃ (nx' : Nat → Nat), ∃ (b' : Nat), ∃ (bt' : List Int32), ∃ (kn' : Int32), ∃ (en' : Int32), ∃ (th' : Int32), RM n mv rw' nx' b' bt' kn' en' dn rf kk th' w' ∧ FR b b' w w' ∧ (∀ i, rw' i < 7) ∧ (∀ i, nx' i < 7) ∧ KX n mv kn' bt')) := by
              intro fuellp61_69
              induction fuellp61_69 with
              | zero => intros; omega
              | succ fuellp61_69 ihlp61_69 =>
                intro w70 rw_61 z4 c5 hR71 hF72 gr73 hv61_0 hf74
                obtain ⟨h19_75, h20_75, h21_75, h22_75, hb_75, hbl_75, hb3_75⟩ := hR71
                refine J_iload (pc := 61) dX8_rank_61 rfl ?_
                refine J_if_ltM (pc := 63) (tgt := 173) dX8_rank_63 (by decide) (by omega) (fun ht76 => ?_) (fun hf77 => ?_)
                · refine J_iload (pc := 173) dX8_rank_173 rfl ?_
                  exact J_iret (pc := 175) dX8_rank_175 rfl ⟨trivial, ⟨rw_61, nx12, b12, bt12, kn12, en12, nI (tW 0 0), ⟨h19_75, h20_75, h21_75, h22_75, hb_75, hbl_75, hb3_75⟩, hF72, gr73, hgnx12, (by first | assumption | exact KX_i (by assumption) (by omega) (by first | rfl | assumption))⟩⟩
                · rw [nI_m1 hf77]
                  refine J_aload_n (pc := 66) dX8_rank_66 rfl rfl rfl ?_
                  refine J_iload (pc := 67) dX8_rank_67 rfl ?_
                  refine J_aload_n (pc := 69) dX8_rank_69 rfl rfl rfl ?_
                  refine J_get (pc := 70) (k := 2) dX8_rank_70 kC9 (by decide) ff_X8_17 h19_75 rfl ?_
                  refine J_callV0 (pc := 73) (M := mX8_rank) (as := [.int (nI (c5 - 1)), .ref 21]) dX8_rank_73 fw_X8_rowOf fl_X8_78 fm_X8_rowOf fe_X8_rowOf h19_75 (by decide) rfl rfl rfl (c_X8_rowOf hs (d := d - 1) (Nat.le_trans (by decide) hdm) (w := w70) (n := n) (mv := mv) (rw := rw_61) (nx := nx12) (b := b12) (bt := bt12) (kn := kn12) (en := en12) (dn := dn) (rf := rf) (kk := kk) (th := nI (tW 0 0)) ⟨h19_75, h20_75, h21_75, h22_75, hb_75, hbl_75, hb3_75⟩ hn1 hn2 gm gr73 hgnx12 (c5 - 1) (by first | assumption | omega) (kc := 0) (ks := 0)) hdp (st := []) (Nat.le_of_ble_eq_true rfl) rfl (kr_V fun w78 hw78 => ?_) kx_V
                  obtain ⟨rw78, hR78, hFc78, hgrw78, hp78_0⟩ := hw78
                  obtain ⟨h19_78, h20_78, h21_78, h22_78, hbb_78, hbl_78, hb3_78⟩ := hR78
                  have hF78 := hF72.tr hFc78
                  refine J_iconst (pc := 76) (v := nI 0) dX8_rank_76 (by decide) ?_
                  refine J_istore (pc := 77) dX8_rank_77 (by decide) rfl ?_
                  show J X mX8_rank d (kc - 13) (ks - 2054) 79 [some (.ref 19), some (.int (nI q9)), some (.int (nI q1)), some (.int (nI q5)), some (.int z4), some (.int (nI (c5 - 1))), some (.int (nI 0))] [] w78 _
                  have lp79_79 : ∀ (fuel : Nat) (c6 : Nat), (c6 ≤ n) → (n - c6 < fuel) → J X mX8_rank d (kc - 13) (ks - 2054) 79 [some (.ref 19), some (.int (nI q9)), some (.int (nI q1)), some (.int (nI q5)), some (.int z4), some (.int (nI (c5 - 1))), some (.int (nI c6))] [] w78 (pI (fun _ => True) (fun w' => ∃ (rw' : Nat → Nat), ∃ (nx' : Nat → Nat), ∃ (b' : Nat), ∃ (bt' : List Int32), ∃ (kn' : Int32), ∃ (en' : Int32), ∃ (th' : Int32), RM n mv rw' nx' b' bt' kn' en' dn rf kk th' w' ∧ FR b b' w w' ∧ (∀ i, rw' i < 7) ∧ (∀ i, nx' i < 7) ∧ KX n mv kn' bt')) := by
                    intro fuellp79_79
                    induction fuellp79_79 with
                    | zero => intros; omega
                    | succ fuellp79_79 ihlp79_79 =>
                      intro c6 hv79_0 hf80
                      refine J_iload (pc := 79) dX8_rank_79 rfl ?_
                      refine J_aload_n (pc := 81) dX8_rank_81 rfl rfl rfl ?_
                      refine J_get (pc := 82) (k := 0) dX8_rank_82 kC9 (by decide) ff_X8_7 h19_78 rfl ?_
                      refine J_icmp_geN (pc := 85) (tgt := 121) dX8_rank_85 (by decide) (by omega) (by omega) (fun ht81 => ?_) (fun hf82 => ?_)
                      · refine J_iload (pc := 121) dX8_rank_121 rfl ?_
                        refine J_aload_n (pc := 123) dX8_rank_123 rfl rfl rfl ?_
                        refine J_get (pc := 124) (k := 0) dX8_rank_124 kC9 (by decide) ff_X8_7 h19_78 rfl ?_
                        refine J_icmp_geN (pc := 127) (tgt := 160) dX8_rank_127 (by decide) (by omega) (by omega) (fun ht83 => ?_) (fun hf84 => ?_)
                        · refine J_aload_n (pc := 160) dX8_rank_160 rfl rfl rfl ?_
                          refine J_iload (pc := 161) dX8_rank_161 rfl ?_
                          refine J_iconst (pc := 163) (v := nI 1) dX8_rank_163 (by decide) ?_
                          refine J_iaddN (pc := 164) dX8_rank_164 ?_
                          refine J_callV0 (pc := 165) (M := mX8_rank) (as := [.int (nI ((c5 - 1) + 1))]) dX8_rank_165 fw_X8_from fl_X8_137 fm_X8_from fe_X8_from h19_78 (by decide) rfl rfl rfl (c_X8_from hs (d := d - 1) (Nat.le_trans (by decide) hdm) (w := w78) (n := n) (mv := mv) (rw := rw78) (nx := nx12) (b := b12) (bt := bt12) (kn := kn12) (en := en12) (dn := dn) (rf := rf) (kk := kk) (th := nI (tW 0 0)) ⟨h19_78, h20_78, h21_78, h22_78, hbb_78, hbl_78, hb3_78⟩ hn1 hn2 gm hgrw78 hgnx12 ((c5 - 1) + 1) (by first | assumption | omega) (kc := 0) (ks := 0)) hdp (st := []) (Nat.le_of_ble_eq_true rfl) rfl (kr_P fun v85 hv85 => ?_) kx_I
                          rcases hv85 with ⟨rfl, hk85_0⟩ | ⟨q85, rfl, hk85_0, hk85_1, hk85_2, hk85_3⟩
                          · refine J_istore (pc := 168) dX8_rank_168 (by decide) rfl ?_
                            show J X mX8_rank d (kc - 13) (ks - 2054) 170 [some (.ref 19), some (.int (nI q9)), some (.int (nI q1)), some (.int (nI q5)), some (.int z4), some (.int (-1)), some (.int (nI c6))] [] w78 _
                            refine J_goto (pc := 170) (tgt := 61) dX8_rank_170 (by decide) ?_
                            exact J_sub (L' := [some (.ref 19), some (.int (nI q9)), some (.int (nI q1)), some (.int (nI q5)), some (.int z4), some (.int (nI 0 + Int32.ofInt (-1))), none]) ⟨rfl, ⟨rfl, ⟨rfl, ⟨rfl, ⟨rfl, ⟨(congrArg (fun z => some (Value.int z)) (by decide : (-1 : Int32) = nI 0 + Int32.ofInt (-1))), trivial⟩⟩⟩⟩⟩⟩ (ihlp61_69 w78 rw78 z4 0 ⟨h19_78, h20_78, h21_78, h22_78, hbb_78, hbl_78, hb3_78⟩ hF78 hgrw78 (by first | assumption | omega) (by exact mu_dec (by assumption) (by omega) (by omega) (by omega)))
                          · refine J_istore (pc := 168) dX8_rank_168 (by decide) rfl ?_
                            show J X mX8_rank d (kc - 13) (ks - 2054) 170 [some (.ref 19), some (.int (nI q9)), some (.int (nI q1)), some (.int (nI q5)), some (.int z4), some (.int (nI q85)), some (.int (nI c6))] [] w78 _
                            refine J_goto (pc := 170) (tgt := 61) dX8_rank_170 (by decide) ?_
                            exact J_sub (L' := [some (.ref 19), some (.int (nI q9)), some (.int (nI q1)), some (.int (nI q5)), some (.int z4), some (.int (nI (q85 + 1) + Int32.ofInt (-1))), none]) ⟨rfl, ⟨rfl, ⟨rfl, ⟨rfl, ⟨rfl, ⟨(congrArg (fun z => some (Value.int z)) (nI_n1 q85)), trivial⟩⟩⟩⟩⟩⟩ (ihlp61_69 w78 rw78 z4 (q85 + 1) ⟨h19_78, h20_78, h21_78, h22_78, hbb_78, hbl_78, hb3_78⟩ hF78 hgrw78 (by first | assumption | omega) (by exact mu_dec (by assumption) (by omega) (by omega) (by omega)))
                        · refine J_aload_n (pc := 130) dX8_rank_130 rfl rfl rfl ?_
                          refine J_get (pc := 131) (k := 2) dX8_rank_131 kC9 (by decide) ff_X8_17 h19_78 rfl ?_
                          refine J_aload_n (pc := 134) dX8_rank_134 rfl rfl rfl ?_
                          refine J_iload_n (pc := 135) dX8_rank_135 rfl rfl ?_
                          refine J_iload (pc := 136) dX8_rank_136 rfl ?_
                          refine J_callV0 (pc := 138) (M := mX8_rank) (as := [.int (nI q1), .int (nI c6)]) dX8_rank_138 fw_X8_at fl_X8_82 fm_X8_at fe_X8_at h19_78 (by decide) rfl rfl rfl (c_X8_at hs (d := d - 1) (Nat.le_trans (by decide) hdm) (w := w78) (n := n) (mv := mv) (rw := rw78) (nx := nx12) (b := b12) (bt := bt12) (kn := kn12) (en := en12) (dn := dn) (rf := rf) (kk := kk) (th := nI (tW 0 0)) ⟨h19_78, h20_78, h21_78, h22_78, hbb_78, hbl_78, hb3_78⟩ hn1 hn2 gm hgrw78 hgnx12 q1 c6 (by first | assumption | omega) (by first | assumption | omega) (kc := 0) (ks := 0)) hdp (st := [.ref 21]) (Nat.le_of_ble_eq_true rfl) rfl (kr_P fun v86 hv86 => ?_) kx_I
                          subst hv86
                          have hq87 := gm (q1 * 7 + c6)
                          refine J_ialdF (pc := 141) dX8_rank_141 h21_78 (by omega) (by decide) ?_
                          have hq88 := hgrw78 (mv (q1 * 7 + c6))
                          refine J_aload_n (pc := 142) dX8_rank_142 rfl rfl rfl ?_
                          refine J_iload_n (pc := 143) dX8_rank_143 rfl rfl ?_
                          refine J_aload_n (pc := 144) dX8_rank_144 rfl rfl rfl ?_
                          refine J_iload_n (pc := 145) dX8_rank_145 rfl rfl ?_
                          refine J_iload (pc := 146) dX8_rank_146 rfl ?_
                          refine J_callV0 (pc := 148) (M := mX8_rank) (as := [.int (nI q1), .int (nI c6)]) dX8_rank_148 fw_X8_at fl_X8_82 fm_X8_at fe_X8_at h19_78 (by decide) rfl rfl rfl (c_X8_at hs (d := d - 1) (Nat.le_trans (by decide) hdm) (w := w78) (n := n) (mv := mv) (rw := rw78) (nx := nx12) (b := b12) (bt := bt12) (kn := kn12) (en := en12) (dn := dn) (rf := rf) (kk := kk) (th := nI (tW 0 0)) ⟨h19_78, h20_78, h21_78, h22_78, hbb_78, hbl_78, hb3_78⟩ hn1 hn2 gm hgrw78 hgnx12 q1 c6 (by first | assumption | omega) (by first | assumption | omega) (kc := 0) (ks := 0)) hdp (st := [.int (nI q5), .ref 19, .int (nI (rw78 (mv (q1 * 7 + c6))))]) (Nat.le_of_ble_eq_true rfl) rfl (kr_P fun v89 hv89 => ?_) kx_I
                          subst hv89
                          have hq90 := gm (q1 * 7 + c6)
                          refine J_callV0 (pc := 151) (M := mX8_rank) (as := [.int (nI q5), .int (nI (mv (q1 * 7 + c6)))]) dX8_rank_151 fw_X8_at fl_X8_82 fm_X8_at fe_X8_at h19_78 (by decide) rfl rfl rfl (c_X8_at hs (d := d - 1) (Nat.le_trans (by decide) hdm) (w := w78) (n := n) (mv := mv) (rw := rw78) (nx := nx12) (b := b12) (bt := bt12) (kn := kn12) (en := en12) (dn := dn) (rf := rf) (kk := kk) (th := nI (tW 0 0)) ⟨h19_78, h20_78, h21_78, h22_78, hbb_78, hbl_78, hb3_78⟩ hn1 hn2 gm hgrw78 hgnx12 q5 (mv (q1 * 7 + c6)) (by first | assumption | omega) (by first | assumption | omega) (kc := 0) (ks := 0)) hdp (st := [.int (nI (rw78 (mv (q1 * 7 + c6))))]) (Nat.le_of_ble_eq_true rfl) rfl (kr_P fun v91 hv91 => ?_) kx_I
                          subst hv91
                          have hq92 := gm (q5 * 7 + (mv (q1 * 7 + c6)))
                          refine J_icmp_geN (pc := 154) (tgt := 160) dX8_rank_154 (by decide) (by omega) (by omega) (fun ht93 => ?_) (fun hf94 => ?_)
                          · refine J_aload_n (pc := 160) dX8_rank_160 rfl rfl rfl ?_
                            refine J_iload (pc := 161) dX8_rank_161 rfl ?_
                            refine J_iconst (pc := 163) (v := nI 1) dX8_rank_163 (by decide) ?_
                            refine J_iaddN (pc := 164) dX8_rank_164 ?_
                            refine J_callV0 (pc := 165) (M := mX8_rank) (as := [.int (nI ((c5 - 1) + 1))]) dX8_rank_165 fw_X8_from fl_X8_137 fm_X8_from fe_X8_from h19_78 (by decide) rfl rfl rfl (c_X8_from hs (d := d - 1) (Nat.le_trans (by decide) hdm) (w := w78) (n := n) (mv := mv) (rw := rw78) (nx := nx12) (b := b12) (bt := bt12) (kn := kn12) (en := en12) (dn := dn) (rf := rf) (kk := kk) (th := nI (tW 0 0)) ⟨h19_78, h20_78, h21_78, h22_78, hbb_78, hbl_78, hb3_78⟩ hn1 hn2 gm hgrw78 hgnx12 ((c5 - 1) + 1) (by first | assumption | omega) (kc := 0) (ks := 0)) hdp (st := []) (Nat.le_of_ble_eq_true rfl) rfl (kr_P fun v95 hv95 => ?_) kx_I
                            rcases hv95 with ⟨rfl, hk95_0⟩ | ⟨q95, rfl, hk95_0, hk95_1, hk95_2, hk95_3⟩
                            · refine J_istore (pc := 168) dX8_rank_168 (by decide) rfl ?_
                              show J X mX8_rank d (kc - 13) (ks - 2054) 170 [some (.ref 19), some (.int (nI q9)), some (.int (nI q1)), some (.int (nI q5)), some (.int z4), some (.int (-1)), some (.int (nI c6))] [] w78 _
                              refine J_goto (pc := 170) (tgt := 61) dX8_rank_170 (by decide) ?_
                              exact J_sub (L' := [some (.ref 19), some (.int (nI q9)), some (.int (nI q1)), some (.int (nI q5)), some (.int z4), some (.int (nI 0 + Int32.ofInt (-1))), none]) ⟨rfl, ⟨rfl, ⟨rfl, ⟨rfl, ⟨rfl, ⟨(congrArg (fun z => some (Value.int z)) (by decide : (-1 : Int32) = nI 0 + Int32.ofInt (-1))), trivial⟩⟩⟩⟩⟩⟩ (ihlp61_69 w78 rw78 z4 0 ⟨h19_78, h20_78, h21_78, h22_78, hbb_78, hbl_78, hb3_78⟩ hF78 hgrw78 (by first | assumption | omega) (by exact mu_dec (by assumption) (by omega) (by omega) (by omega)))
                            · refine J_istore (pc := 168) dX8_rank_168 (by decide) rfl ?_
                              show J X mX8_rank d (kc - 13) (ks - 2054) 170 [some (.ref 19), some (.int (nI q9)), some (.int (nI q1)), some (.int (nI q5)), some (.int z4), some (.int (nI q95)), some (.int (nI c6))] [] w78 _
                              refine J_goto (pc := 170) (tgt := 61) dX8_rank_170 (by decide) ?_
                              exact J_sub (L' := [some (.ref 19), some (.int (nI q9)), some (.int (nI q1)), some (.int (nI q5)), some (.int z4), some (.int (nI (q95 + 1) + Int32.ofInt (-1))), none]) ⟨rfl, ⟨rfl, ⟨rfl, ⟨rfl, ⟨rfl, ⟨(congrArg (fun z => some (Value.int z)) (nI_n1 q95)), trivial⟩⟩⟩⟩⟩⟩ (ihlp61_69 w78 rw78 z4 (q95 + 1) ⟨h19_78, h20_78, h21_78, h22_78, hbb_78, hbl_78, hb3_78⟩ hF78 hgrw78 (by first | assumption | omega) (by exact mu_dec (by assumption) (by omega) (by omega) (by omega)))
                          · refine J_iinc (pc := 157) dX8_rank_157 rfl rfl (by decide) rfl ?_
                            generalize z4 + Int32.ofInt 1 = x96
                            show J X mX8_rank d (kc - 13) (ks - 2054) 160 [some (.ref 19), some (.int (nI q9)), some (.int (nI q1)), some (.int (nI q5)), some (.int x96), some (.int (nI (c5 - 1))), some (.int (nI c6))] [] w78 _
                            refine J_aload_n (pc := 160) dX8_rank_160 rfl rfl rfl ?_
                            refine J_iload (pc := 161) dX8_rank_161 rfl ?_
                            refine J_iconst (pc := 163) (v := nI 1) dX8_rank_163 (by decide) ?_
                            refine J_iaddN (pc := 164) dX8_rank_164 ?_
                            refine J_callV0 (pc := 165) (M := mX8_rank) (as := [.int (nI ((c5 - 1) + 1))]) dX8_rank_165 fw_X8_from fl_X8_137 fm_X8_from fe_X8_from h19_78 (by decide) rfl rfl rfl (c_X8_from hs (d := d - 1) (Nat.le_trans (by decide) hdm) (w := w78) (n := n) (mv := mv) (rw := rw78) (nx := nx12) (b := b12) (bt := bt12) (kn := kn12) (en := en12) (dn := dn) (rf := rf) (kk := kk) (th := nI (tW 0 0)) ⟨h19_78, h20_78, h21_78, h22_78, hbb_78, hbl_78, hb3_78⟩ hn1 hn2 gm hgrw78 hgnx12 ((c5 - 1) + 1) (by first | assumption | omega) (kc := 0) (ks := 0)) hdp (st := []) (Nat.le_of_ble_eq_true rfl) rfl (kr_P fun v97 hv97 => ?_) kx_I
                            rcases hv97 with ⟨rfl, hk97_0⟩ | ⟨q97, rfl, hk97_0, hk97_1, hk97_2, hk97_3⟩
                            · refine J_istore (pc := 168) dX8_rank_168 (by decide) rfl ?_
                              show J X mX8_rank d (kc - 13) (ks - 2054) 170 [some (.ref 19), some (.int (nI q9)), some (.int (nI q1)), some (.int (nI q5)), some (.int x96), some (.int (-1)), some (.int (nI c6))] [] w78 _
                              refine J_goto (pc := 170) (tgt := 61) dX8_rank_170 (by decide) ?_
                              exact J_sub (L' := [some (.ref 19), some (.int (nI q9)), some (.int (nI q1)), some (.int (nI q5)), some (.int x96), some (.int (nI 0 + Int32.ofInt (-1))), none]) ⟨rfl, ⟨rfl, ⟨rfl, ⟨rfl, ⟨rfl, ⟨(congrArg (fun z => some (Value.int z)) (by decide : (-1 : Int32) = nI 0 + Int32.ofInt (-1))), trivial⟩⟩⟩⟩⟩⟩ (ihlp61_69 w78 rw78 x96 0 ⟨h19_78, h20_78, h21_78, h22_78, hbb_78, hbl_78, hb3_78⟩ hF78 hgrw78 (by first | assumption | omega) (by exact mu_dec (by assumption) (by omega) (by omega) (by omega)))
                            · refine J_istore (pc := 168) dX8_rank_168 (by decide) rfl ?_
                              show J X mX8_rank d (kc - 13) (ks - 2054) 170 [some (.ref 19), some (.int (nI q9)), some (.int (nI q1)), some (.int (nI q5)), some (.int x96), some (.int (nI q97)), some (.int (nI c6))] [] w78 _
                              refine J_goto (pc := 170) (tgt := 61) dX8_rank_170 (by decide) ?_
                              exact J_sub (L' := [some (.ref 19), some (.int (nI q9)), some (.int (nI q1)), some (.int (nI q5)), some (.int x96), some (.int (nI (q97 + 1) + Int32.ofInt (-1))), none]) ⟨rfl, ⟨rfl, ⟨rfl, ⟨rfl, ⟨rfl, ⟨(congrArg (fun z => some (Value.int z)) (nI_n1 q97)), trivial⟩⟩⟩⟩⟩⟩ (ihlp61_69 w78 rw78 x96 (q97 + 1) ⟨h19_78, h20_78, h21_78, h22_78, hbb_78, hbl_78, hb3_78⟩ hF78 hgrw78 (by first | assumption | omega) (by exact mu_dec (by assumption) (by omega) (by omega) (by omega)))
                      · refine J_aload_n (pc := 88) dX8_rank_88 rfl rfl rfl ?_
                        refine J_get (pc := 89) (k := 2) dX8_rank_89 kC9 (by decide) ff_X8_17 h19_78 rfl ?_
                        refine J_aload_n (pc := 92) dX8_rank_92 rfl rfl rfl ?_
                        refine J_iload_n (pc := 93) dX8_rank_93 rfl rfl ?_
                        refine J_iload (pc := 94) dX8_rank_94 rfl ?_
                        refine J_callV0 (pc := 96) (M := mX8_rank) (as := [.int (nI q1), .int (nI c6)]) dX8_rank_96 fw_X8_at fl_X8_82 fm_X8_at fe_X8_at h19_78 (by decide) rfl rfl rfl (c_X8_at hs (d := d - 1) (Nat.le_trans (by decide) hdm) (w := w78) (n := n) (mv := mv) (rw := rw78) (nx := nx12) (b := b12) (bt := bt12) (kn := kn12) (en := en12) (dn := dn) (rf := rf) (kk := kk) (th := nI (tW 0 0)) ⟨h19_78, h20_78, h21_78, h22_78, hbb_78, hbl_78, hb3_78⟩ hn1 hn2 gm hgrw78 hgnx12 q1 c6 (by first | assumption | omega) (by first | assumption | omega) (kc := 0) (ks := 0)) hdp (st := [.ref 21]) (Nat.le_of_ble_eq_true rfl) rfl (kr_P fun v98 hv98 => ?_) kx_I
                        subst hv98
                        have hq99 := gm (q1 * 7 + c6)
                        refine J_ialdF (pc := 99) dX8_rank_99 h21_78 (by omega) (by decide) ?_
                        have hq100 := hgrw78 (mv (q1 * 7 + c6))
                        refine J_aload_n (pc := 100) dX8_rank_100 rfl rfl rfl ?_
                        refine J_iload_n (pc := 101) dX8_rank_101 rfl rfl ?_
                        refine J_aload_n (pc := 102) dX8_rank_102 rfl rfl rfl ?_
                        refine J_iload_n (pc := 103) dX8_rank_103 rfl rfl ?_
                        refine J_iload (pc := 104) dX8_rank_104 rfl ?_
                        refine J_callV0 (pc := 106) (M := mX8_rank) (as := [.int (nI q1), .int (nI c6)]) dX8_rank_106 fw_X8_at fl_X8_82 fm_X8_at fe_X8_at h19_78 (by decide) rfl rfl rfl (c_X8_at hs (d := d - 1) (Nat.le_trans (by decide) hdm) (w := w78) (n := n) (mv := mv) (rw := rw78) (nx := nx12) (b := b12) (bt := bt12) (kn := kn12) (en := en12) (dn := dn) (rf := rf) (kk := kk) (th := nI (tW 0 0)) ⟨h19_78, h20_78, h21_78, h22_78, hbb_78, hbl_78, hb3_78⟩ hn1 hn2 gm hgrw78 hgnx12 q1 c6 (by first | assumption | omega) (by first | assumption | omega) (kc := 0) (ks := 0)) hdp (st := [.int (nI q5), .ref 19, .int (nI (rw78 (mv (q1 * 7 + c6))))]) (Nat.le_of_ble_eq_true rfl) rfl (kr_P fun v101 hv101 => ?_) kx_I
                        subst hv101
                        have hq102 := gm (q1 * 7 + c6)
                        refine J_callV0 (pc := 109) (M := mX8_rank) (as := [.int (nI q5), .int (nI (mv (q1 * 7 + c6)))]) dX8_rank_109 fw_X8_at fl_X8_82 fm_X8_at fe_X8_at h19_78 (by decide) rfl rfl rfl (c_X8_at hs (d := d - 1) (Nat.le_trans (by decide) hdm) (w := w78) (n := n) (mv := mv) (rw := rw78) (nx := nx12) (b := b12) (bt := bt12) (kn := kn12) (en := en12) (dn := dn) (rf := rf) (kk := kk) (th := nI (tW 0 0)) ⟨h19_78, h20_78, h21_78, h22_78, hbb_78, hbl_78, hb3_78⟩ hn1 hn2 gm hgrw78 hgnx12 q5 (mv (q1 * 7 + c6)) (by first | assumption | omega) (by first | assumption | omega) (kc := 0) (ks := 0)) hdp (st := [.int (nI (rw78 (mv (q1 * 7 + c6))))]) (Nat.le_of_ble_eq_true rfl) rfl (kr_P fun v103 hv103 => ?_) kx_I
                        subst hv103
                        have hq104 := gm (q5 * 7 + (mv (q1 * 7 + c6)))
                        refine J_icmp_neN (pc := 112) (tgt := 121) dX8_rank_112 (by decide) (by omega) (by omega) (fun ht105 => ?_) (fun hf106 => ?_)
                        · refine J_iload (pc := 121) dX8_rank_121 rfl ?_
                          refine J_aload_n (pc := 123) dX8_rank_123 rfl rfl rfl ?_
                          refine J_get (pc := 124) (k := 0) dX8_rank_124 kC9 (by decide) ff_X8_7 h19_78 rfl ?_
                          refine J_icmp_geN (pc := 127) (tgt := 160) dX8_rank_127 (by decide) (by omega) (by omega) (fun ht107 => ?_) (fun hf108 => ?_)
                          · refine J_aload_n (pc := 160) dX8_rank_160 rfl rfl rfl ?_
                            refine J_iload (pc := 161) dX8_rank_161 rfl ?_
                            refine J_iconst (pc := 163) (v := nI 1) dX8_rank_163 (by decide) ?_
                            refine J_iaddN (pc := 164) dX8_rank_164 ?_
                            refine J_callV0 (pc := 165) (M := mX8_rank) (as := [.int (nI ((c5 - 1) + 1))]) dX8_rank_165 fw_X8_from fl_X8_137 fm_X8_from fe_X8_from h19_78 (by decide) rfl rfl rfl (c_X8_from hs (d := d - 1) (Nat.le_trans (by decide) hdm) (w := w78) (n := n) (mv := mv) (rw := rw78) (nx := nx12) (b := b12) (bt := bt12) (kn := kn12) (en := en12) (dn := dn) (rf := rf) (kk := kk) (th := nI (tW 0 0)) ⟨h19_78, h20_78, h21_78, h22_78, hbb_78, hbl_78, hb3_78⟩ hn1 hn2 gm hgrw78 hgnx12 ((c5 - 1) + 1) (by first | assumption | omega) (kc := 0) (ks := 0)) hdp (st := []) (Nat.le_of_ble_eq_true rfl) rfl (kr_P fun v109 hv109 => ?_) kx_I
                            rcases hv109 with ⟨rfl, hk109_0⟩ | ⟨q109, rfl, hk109_0, hk109_1, hk109_2, hk109_3⟩
                            · refine J_istore (pc := 168) dX8_rank_168 (by decide) rfl ?_
                              show J X mX8_rank d (kc - 13) (ks - 2054) 170 [some (.ref 19), some (.int (nI q9)), some (.int (nI q1)), some (.int (nI q5)), some (.int z4), some (.int (-1)), some (.int (nI c6))] [] w78 _
                              refine J_goto (pc := 170) (tgt := 61) dX8_rank_170 (by decide) ?_
                              exact J_sub (L' := [some (.ref 19), some (.int (nI q9)), some (.int (nI q1)), some (.int (nI q5)), some (.int z4), some (.int (nI 0 + Int32.ofInt (-1))), none]) ⟨rfl, ⟨rfl, ⟨rfl, ⟨rfl, ⟨rfl, ⟨(congrArg (fun z => some (Value.int z)) (by decide : (-1 : Int32) = nI 0 + Int32.ofInt (-1))), trivial⟩⟩⟩⟩⟩⟩ (ihlp61_69 w78 rw78 z4 0 ⟨h19_78, h20_78, h21_78, h22_78, hbb_78, hbl_78, hb3_78⟩ hF78 hgrw78 (by first | assumption | omega) (by exact mu_dec (by assumption) (by omega) (by omega) (by omega)))
                            · refine J_istore (pc := 168) dX8_rank_168 (by decide) rfl ?_
                              show J X mX8_rank d (kc - 13) (ks - 2054) 170 [some (.ref 19), some (.int (nI q9)), some (.int (nI q1)), some (.int (nI q5)), some (.int z4), some (.int (nI q109)), some (.int (nI c6))] [] w78 _
                              refine J_goto (pc := 170) (tgt := 61) dX8_rank_170 (by decide) ?_
                              exact J_sub (L' := [some (.ref 19), some (.int (nI q9)), some (.int (nI q1)), some (.int (nI q5)), some (.int z4), some (.int (nI (q109 + 1) + Int32.ofInt (-1))), none]) ⟨rfl, ⟨rfl, ⟨rfl, ⟨rfl, ⟨rfl, ⟨(congrArg (fun z => some (Value.int z)) (nI_n1 q109)), trivial⟩⟩⟩⟩⟩⟩ (ihlp61_69 w78 rw78 z4 (q109 + 1) ⟨h19_78, h20_78, h21_78, h22_78, hbb_78, hbl_78, hb3_78⟩ hF78 hgrw78 (by first | assumption | omega) (by exact mu_dec (by assumption) (by omega) (by omega) (by omega)))
                          · refine J_aload_n (pc := 130) dX8_rank_130 rfl rfl rfl ?_
                            refine J_get (pc := 131) (k := 2) dX8_rank_131 kC9 (by decide) ff_X8_17 h19_78 rfl ?_
                            refine J_aload_n (pc := 134) dX8_rank_134 rfl rfl rfl ?_
                            refine J_iload_n (pc := 135) dX8_rank_135 rfl rfl ?_
                            refine J_iload (pc := 136) dX8_rank_136 rfl ?_
                            refine J_callV0 (pc := 138) (M := mX8_rank) (as := [.int (nI q1), .int (nI c6)]) dX8_rank_138 fw_X8_at fl_X8_82 fm_X8_at fe_X8_at h19_78 (by decide) rfl rfl rfl (c_X8_at hs (d := d - 1) (Nat.le_trans (by decide) hdm) (w := w78) (n := n) (mv := mv) (rw := rw78) (nx := nx12) (b := b12) (bt := bt12) (kn := kn12) (en := en12) (dn := dn) (rf := rf) (kk := kk) (th := nI (tW 0 0)) ⟨h19_78, h20_78, h21_78, h22_78, hbb_78, hbl_78, hb3_78⟩ hn1 hn2 gm hgrw78 hgnx12 q1 c6 (by first | assumption | omega) (by first | assumption | omega) (kc := 0) (ks := 0)) hdp (st := [.ref 21]) (Nat.le_of_ble_eq_true rfl) rfl (kr_P fun v110 hv110 => ?_) kx_I
                            subst hv110
                            have hq111 := gm (q1 * 7 + c6)
                            refine J_ialdF (pc := 141) dX8_rank_141 h21_78 (by omega) (by decide) ?_
                            have hq112 := hgrw78 (mv (q1 * 7 + c6))
                            refine J_aload_n (pc := 142) dX8_rank_142 rfl rfl rfl ?_
                            refine J_iload_n (pc := 143) dX8_rank_143 rfl rfl ?_
                            refine J_aload_n (pc := 144) dX8_rank_144 rfl rfl rfl ?_
                            refine J_iload_n (pc := 145) dX8_rank_145 rfl rfl ?_
                            refine J_iload (pc := 146) dX8_rank_146 rfl ?_
                            refine J_callV0 (pc := 148) (M := mX8_rank) (as := [.int (nI q1), .int (nI c6)]) dX8_rank_148 fw_X8_at fl_X8_82 fm_X8_at fe_X8_at h19_78 (by decide) rfl rfl rfl (c_X8_at hs (d := d - 1) (Nat.le_trans (by decide) hdm) (w := w78) (n := n) (mv := mv) (rw := rw78) (nx := nx12) (b := b12) (bt := bt12) (kn := kn12) (en := en12) (dn := dn) (rf := rf) (kk := kk) (th := nI (tW 0 0)) ⟨h19_78, h20_78, h21_78, h22_78, hbb_78, hbl_78, hb3_78⟩ hn1 hn2 gm hgrw78 hgnx12 q1 c6 (by first | assumption | omega) (by first | assumption | omega) (kc := 0) (ks := 0)) hdp (st := [.int (nI q5), .ref 19, .int (nI (rw78 (mv (q1 * 7 + c6))))]) (Nat.le_of_ble_eq_true rfl) rfl (kr_P fun v113 hv113 => ?_) kx_I
                            subst hv113
                            have hq114 := gm (q1 * 7 + c6)
                            refine J_callV0 (pc := 151) (M := mX8_rank) (as := [.int (nI q5), .int (nI (mv (q1 * 7 + c6)))]) dX8_rank_151 fw_X8_at fl_X8_82 fm_X8_at fe_X8_at h19_78 (by decide) rfl rfl rfl (c_X8_at hs (d := d - 1) (Nat.le_trans (by decide) hdm) (w := w78) (n := n) (mv := mv) (rw := rw78) (nx := nx12) (b := b12) (bt := bt12) (kn := kn12) (en := en12) (dn := dn) (rf := rf) (kk := kk) (th := nI (tW 0 0)) ⟨h19_78, h20_78, h21_78, h22_78, hbb_78, hbl_78, hb3_78⟩ hn1 hn2 gm hgrw78 hgnx12 q5 (mv (q1 * 7 + c6)) (by first | assumption | omega) (by first | assumption | omega) (kc := 0) (ks := 0)) hdp (st := [.int (nI (rw78 (mv (q1 * 7 + c6))))]) (Nat.le_of_ble_eq_true rfl) rfl (kr_P fun v115 hv115 => ?_) kx_I
                            subst hv115
                            have hq116 := gm (q5 * 7 + (mv (q1 * 7 + c6)))
                            refine J_icmp_geN (pc := 154) (tgt := 160) dX8_rank_154 (by decide) (by omega) (by omega) (fun ht117 => ?_) (fun hf118 => ?_)
                            · refine J_aload_n (pc := 160) dX8_rank_160 rfl rfl rfl ?_
                              refine J_iload (pc := 161) dX8_rank_161 rfl ?_
                              refine J_iconst (pc := 163) (v := nI 1) dX8_rank_163 (by decide) ?_
                              refine J_iaddN (pc := 164) dX8_rank_164 ?_
                              refine J_callV0 (pc := 165) (M := mX8_rank) (as := [.int (nI ((c5 - 1) + 1))]) dX8_rank_165 fw_X8_from fl_X8_137 fm_X8_from fe_X8_from h19_78 (by decide) rfl rfl rfl (c_X8_from hs (d := d - 1) (Nat.le_trans (by decide) hdm) (w := w78) (n := n) (mv := mv) (rw := rw78) (nx := nx12) (b := b12) (bt := bt12) (kn := kn12) (en := en12) (dn := dn) (rf := rf) (kk := kk) (th := nI (tW 0 0)) ⟨h19_78, h20_78, h21_78, h22_78, hbb_78, hbl_78, hb3_78⟩ hn1 hn2 gm hgrw78 hgnx12 ((c5 - 1) + 1) (by first | assumption | omega) (kc := 0) (ks := 0)) hdp (st := []) (Nat.le_of_ble_eq_true rfl) rfl (kr_P fun v119 hv119 => ?_) kx_I
                              rcases hv119 with ⟨rfl, hk119_0⟩ | ⟨q119, rfl, hk119_0, hk119_1, hk119_2, hk119_3⟩
                              · refine J_istore (pc := 168) dX8_rank_168 (by decide) rfl ?_
                                show J X mX8_rank d (kc - 13) (ks - 2054) 170 [some (.ref 19), some (.int (nI q9)), some (.int (nI q1)), some (.int (nI q5)), some (.int z4), some (.int (-1)), some (.int (nI c6))] [] w78 _
                                refine J_goto (pc := 170) (tgt := 61) dX8_rank_170 (by decide) ?_
                                exact J_sub (L' := [some (.ref 19), some (.int (nI q9)), some (.int (nI q1)), some (.int (nI q5)), some (.int z4), some (.int (nI 0 + Int32.ofInt (-1))), none]) ⟨rfl, ⟨rfl, ⟨rfl, ⟨rfl, ⟨rfl, ⟨(congrArg (fun z => some (Value.int z)) (by decide : (-1 : Int32) = nI 0 + Int32.ofInt (-1))), trivial⟩⟩⟩⟩⟩⟩ (ihlp61_69 w78 rw78 z4 0 ⟨h19_78, h20_78, h21_78, h22_78, hbb_78, hbl_78, hb3_78⟩ hF78 hgrw78 (by first | assumption | omega) (by exact mu_dec (by assumption) (by omega) (by omega) (by omega)))
                              · refine J_istore (pc := 168) dX8_rank_168 (by decide) rfl ?_
                                show J X mX8_rank d (kc - 13) (ks - 2054) 170 [some (.ref 19), some (.int (nI q9)), some (.int (nI q1)), some (.int (nI q5)), some (.int z4), some (.int (nI q119)), some (.int (nI c6))] [] w78 _
                                refine J_goto (pc := 170) (tgt := 61) dX8_rank_170 (by decide) ?_
                                exact J_sub (L' := [some (.ref 19), some (.int (nI q9)), some (.int (nI q1)), some (.int (nI q5)), some (.int z4), some (.int (nI (q119 + 1) + Int32.ofInt (-1))), none]) ⟨rfl, ⟨rfl, ⟨rfl, ⟨rfl, ⟨rfl, ⟨(congrArg (fun z => some (Value.int z)) (nI_n1 q119)), trivial⟩⟩⟩⟩⟩⟩ (ihlp61_69 w78 rw78 z4 (q119 + 1) ⟨h19_78, h20_78, h21_78, h22_78, hbb_78, hbl_78, hb3_78⟩ hF78 hgrw78 (by first | assumption | omega) (by exact mu_dec (by assumption) (by omega) (by omega) (by omega)))
                            · refine J_iinc (pc := 157) dX8_rank_157 rfl rfl (by decide) rfl ?_
                              generalize z4 + Int32.ofInt 1 = x120
                              show J X mX8_rank d (kc - 13) (ks - 2054) 160 [some (.ref 19), some (.int (nI q9)), some (.int (nI q1)), some (.int (nI q5)), some (.int x120), some (.int (nI (c5 - 1))), some (.int (nI c6))] [] w78 _
                              refine J_aload_n (pc := 160) dX8_rank_160 rfl rfl rfl ?_
                              refine J_iload (pc := 161) dX8_rank_161 rfl ?_
                              refine J_iconst (pc := 163) (v := nI 1) dX8_rank_163 (by decide) ?_
                              refine J_iaddN (pc := 164) dX8_rank_164 ?_
                              refine J_callV0 (pc := 165) (M := mX8_rank) (as := [.int (nI ((c5 - 1) + 1))]) dX8_rank_165 fw_X8_from fl_X8_137 fm_X8_from fe_X8_from h19_78 (by decide) rfl rfl rfl (c_X8_from hs (d := d - 1) (Nat.le_trans (by decide) hdm) (w := w78) (n := n) (mv := mv) (rw := rw78) (nx := nx12) (b := b12) (bt := bt12) (kn := kn12) (en := en12) (dn := dn) (rf := rf) (kk := kk) (th := nI (tW 0 0)) ⟨h19_78, h20_78, h21_78, h22_78, hbb_78, hbl_78, hb3_78⟩ hn1 hn2 gm hgrw78 hgnx12 ((c5 - 1) + 1) (by first | assumption | omega) (kc := 0) (ks := 0)) hdp (st := []) (Nat.le_of_ble_eq_true rfl) rfl (kr_P fun v121 hv121 => ?_) kx_I
                              rcases hv121 with ⟨rfl, hk121_0⟩ | ⟨q121, rfl, hk121_0, hk121_1, hk121_2, hk121_3⟩
                              · refine J_istore (pc := 168) dX8_rank_168 (by decide) rfl ?_
                                show J X mX8_rank d (kc - 13) (ks - 2054) 170 [some (.ref 19), some (.int (nI q9)), some (.int (nI q1)), some (.int (nI q5)), some (.int x120), some (.int (-1)), some (.int (nI c6))] [] w78 _
                                refine J_goto (pc := 170) (tgt := 61) dX8_rank_170 (by decide) ?_
                                exact J_sub (L' := [some (.ref 19), some (.int (nI q9)), some (.int (nI q1)), some (.int (nI q5)), some (.int x120), some (.int (nI 0 + Int32.ofInt (-1))), none]) ⟨rfl, ⟨rfl, ⟨rfl, ⟨rfl, ⟨rfl, ⟨(congrArg (fun z => some (Value.int z)) (by decide : (-1 : Int32) = nI 0 + Int32.ofInt (-1))), trivial⟩⟩⟩⟩⟩⟩ (ihlp61_69 w78 rw78 x120 0 ⟨h19_78, h20_78, h21_78, h22_78, hbb_78, hbl_78, hb3_78⟩ hF78 hgrw78 (by first | assumption | omega) (by exact mu_dec (by assumption) (by omega) (by omega) (by omega)))
                              · refine J_istore (pc := 168) dX8_rank_168 (by decide) rfl ?_
                                show J X mX8_rank d (kc - 13) (ks - 2054) 170 [some (.ref 19), some (.int (nI q9)), some (.int (nI q1)), some (.int (nI q5)), some (.int x120), some (.int (nI q121)), some (.int (nI c6))] [] w78 _
                                refine J_goto (pc := 170) (tgt := 61) dX8_rank_170 (by decide) ?_
                                exact J_sub (L' := [some (.ref 19), some (.int (nI q9)), some (.int (nI q1)), some (.int (nI q5)), some (.int x120), some (.int (nI (q121 + 1) + Int32.ofInt (-1))), none]) ⟨rfl, ⟨rfl, ⟨rfl, ⟨rfl, ⟨rfl, ⟨(congrArg (fun z => some (Value.int z)) (nI_n1 q121)), trivial⟩⟩⟩⟩⟩⟩ (ihlp61_69 w78 rw78 x120 (q121 + 1) ⟨h19_78, h20_78, h21_78, h22_78, hbb_78, hbl_78, hb3_78⟩ hF78 hgrw78 (by first | assumption | omega) (by exact mu_dec (by assumption) (by omega) (by omega) (by omega)))
                        · refine J_iincN (pc := 115) (b := 1) dX8_rank_115 rfl (by decide) (by decide) rfl ?_
                          show J X mX8_rank d (kc - 13) (ks - 2054) 118 [some (.ref 19), some (.int (nI q9)), some (.int (nI q1)), some (.int (nI q5)), some (.int z4), some (.int (nI (c5 - 1))), some (.int (nI (c6 + 1)))] [] w78 _
                          refine J_goto (pc := 118) (tgt := 79) dX8_rank_118 (by decide) ?_
                          exact J_sub (L' := [some (.ref 19), some (.int (nI q9)), some (.int (nI q1)), some (.int (nI q5)), some (.int z4), some (.int (nI (c5 - 1))), some (.int (nI (c6 + 1)))]) ⟨rfl, ⟨rfl, ⟨rfl, ⟨rfl, ⟨rfl, ⟨rfl, ⟨rfl, trivial⟩⟩⟩⟩⟩⟩⟩ (ihlp79_79 (c6 + 1) (by first | assumption | omega) (by omega))
                  exact J_sub (L' := [some (.ref 19), some (.int (nI q9)), some (.int (nI q1)), some (.int (nI q5)), some (.int z4), some (.int (nI (c5 - 1))), some (.int (nI 0))]) ⟨rfl, ⟨rfl, ⟨rfl, ⟨rfl, ⟨rfl, ⟨rfl, ⟨rfl, trivial⟩⟩⟩⟩⟩⟩⟩ (lp79_79 _ 0 (by first | assumption | omega) (Nat.lt_succ_self _))
            exact J_sub (L' := [some (.ref 19), some (.int (nI q9)), some (.int (nI q1)), some (.int (nI q5)), some (.int (nI 0)), some (.int (nI (q15 + 1) + Int32.ofInt (-1))), none]) ⟨rfl, ⟨rfl, ⟨rfl, ⟨rfl, ⟨rfl, ⟨(congrArg (fun z => some (Value.int z)) (nI_n1 q15)), trivial⟩⟩⟩⟩⟩⟩ (lp61_69 _ w12 rw12 (nI 0) (q15 + 1) ⟨h19_12, h20_12, h21_12, h22_12, hbb_12, hbl_12, hb3_12⟩ hF12 hgrw12 (by first | assumption | omega) (Nat.lt_succ_self _))
        · refine J_iconst (pc := 49) (v := (-1)) dX8_rank_49 (by decide) ?_
          exact J_iret (pc := 50) dX8_rank_50 rfl ⟨trivial, ⟨rw12, nx12, b12, bt12, kn12, en12, nI (tW 0 0), ⟨h19_12, h20_12, h21_12, h22_12, hbb_12, hbl_12, hb3_12⟩, hF12, hgrw12, hgnx12, (by first | assumption | exact KX_i (by assumption) (by omega) (by first | rfl | assumption))⟩⟩
