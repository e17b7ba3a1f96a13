/-! contracts of the reference: rspec4 -/
set_option maxRecDepth 100000 in
set_option maxHeartbeats 40000000 in
theorem c_X8_together {X : jX} (hs : X.1.stackTraces = false) {d : Nat} (hd : 2 ≤ d) {n : Nat} {mv rw nx : Nat → Nat} {b : Nat} {bt : List Int32} {kn en dn rf kk th : Int32} {w : List jC} (hR : RM n mv rw nx b bt kn en dn rf kk th w) (hn1 : 2 ≤ n) (hn2 : n ≤ 7) (gm : ∀ i, mv i < 7) (gr : ∀ i, rw i < 7) (gx : ∀ i, nx i < 7) (s : Int32) (a : Int32) (c : Int32) (hy0 : PM n mv) {kc ks : Nat} : jMet X mX8_together d kc ks [.ref 19, .int s, .int a, .int c] w (pI (fun _ => True) (fun w' => ∃ (rw' : Nat → Nat), ∃ (th' : Int32), RM n mv rw' nx b bt kn en dn rf kk th' w' ∧ FR b b w w' ∧ (∀ i, rw' i < 7))) := by
  refine jMet_of hs (by decide +kernel) (Nat.le_of_ble_eq_true rfl) (L := [some (.ref 19), some (.int s), some (.int a), some (.int c), none, none]) rfl ?_
  have hdm : 1 ≤ d - 1 := by omega
  have hdp : d - 1 + 1 ≤ d := by omega
  have hfc := fc_7 hn2
  have hfp := fc_pos n
  obtain ⟨h19, h20, h21, h22, hbb, hbl, hb3⟩ := hR
  have hF : FR b b w w := FR.rf
  refine J_aload_n (pc := 0) dX8_together_0 rfl rfl rfl ?_
  refine J_aload_n (pc := 1) dX8_together_1 rfl rfl rfl ?_
  refine J_iload_n (pc := 2) dX8_together_2 rfl rfl ?_
  refine J_callV0 (pc := 3) (M := mX8_together) (as := [.int a]) dX8_together_3 fw_X8_isPoint fl_X8_118 fm_X8_isPoint fe_X8_isPoint h19 (by decide) rfl rfl rfl (c_X8_isPoint hs (d := d - 1) (Nat.le_trans (by decide) hdm) (w := w) (n := n) (mv := mv) (rw := rw) (nx := nx) (b := b) (bt := bt) (kn := kn) (en := en) (dn := dn) (rf := rf) (kk := kk) (th := th) ⟨h19, h20, h21, h22, hbb, hbl, hb3⟩ hn1 hn2 gm gr gx a (kc := 0) (ks := 0)) hdp (st := [.ref 19]) (Nat.le_of_ble_eq_true rfl) rfl (kr_P fun v1 hv1 => ?_) kx_I
  rcases hv1 with ⟨rfl, hk1_0⟩ | ⟨q1, rfl, hk1_0, rfl⟩
  · refine J_if_eqN (pc := 6) (tgt := 17) dX8_together_6 (by decide) (by decide) (fun _ => ?_) (fun h => absurd h (by decide))
    refine J_iconst (pc := 17) (v := nI 1) dX8_together_17 (by decide) ?_
    refine J_goto (pc := 18) (tgt := 22) dX8_together_18 (by decide) ?_
    refine J_iload_n (pc := 22) dX8_together_22 rfl rfl ?_
    refine J_callS0 (pc := 23) (M := mX8_together) (as := [.int s]) dX8_together_23 fw_X8_isSet fl_X8_134 fs_X8_isSet rfl (c_X8_isSet hs (d := d - 1) (Nat.le_trans (by decide) hdm) (w := w) s (kc := 0) (ks := 0)) hdp (st := [.int (nI 1), .ref 19]) (Nat.le_of_ble_eq_true rfl) rfl (kr_P fun v2 hv2 => ?_) kx_I
    rcases hv2 with ⟨rfl, hk2_0⟩ | ⟨q2, rfl, hk2_0, rfl⟩
    · refine J_if_neN (pc := 26) (tgt := 33) dX8_together_26 (by decide) (by decide) (fun h => absurd h (by decide)) (fun _ => ?_)
      refine J_iconst (pc := 29) (v := nI 1) dX8_together_29 (by decide) ?_
      refine J_goto (pc := 30) (tgt := 34) dX8_together_30 (by decide) ?_
      refine J_callV0 (pc := 34) (M := mX8_together) (as := [.int (nI 1), .int (nI 1)]) dX8_together_34 fw_X8_isThrown fl_X8_35 fm_X8_isThrown fe_X8_isThrown h19 (by decide) rfl rfl rfl (c_X8_isThrown hs (d := d - 1) (Nat.le_trans (by decide) hdm) (w := w) (n := n) (mv := mv) (rw := rw) (nx := nx) (b := b) (bt := bt) (kn := kn) (en := en) (dn := dn) (rf := rf) (kk := kk) (th := th) ⟨h19, h20, h21, h22, hbb, hbl, hb3⟩ hn1 hn2 gm gr gx 1 1 (by first | assumption | omega) (by first | assumption | omega) (kc := 0) (ks := 0)) hdp (st := []) (Nat.le_of_ble_eq_true rfl) rfl (kr_I fun v3 w3 hv3 hw3 => ?_) kx_I
      obtain ⟨hR3, hFc3⟩ := hw3
      obtain ⟨h19_3, h20_3, h21_3, h22_3, hbb_3, hbl_3, hb3_3⟩ := hR3
      have hF3 := hF.tr hFc3
      subst hv3
      show J X mX8_together d kc ks 37 [some (.ref 19), some (.int s), some (.int a), some (.int c), none, none] [.int (nI 1)] w3 _
      refine J_if_eqN (pc := 37) (tgt := 42) dX8_together_37 (by decide) (by decide) (fun h => absurd h (by decide)) (fun _ => ?_)
      refine J_iconst (pc := 40) (v := nI 0) dX8_together_40 (by decide) ?_
      exact J_iret (pc := 41) dX8_together_41 rfl ⟨trivial, ⟨rw, nI (tW 1 1), ⟨h19_3, h20_3, h21_3, h22_3, hbb_3, hbl_3, hb3_3⟩, hF3, gr⟩⟩
    · refine J_if_neN (pc := 26) (tgt := 33) dX8_together_26 (by decide) (by decide) (fun _ => ?_) (fun h => absurd h (by decide))
      refine J_iconst (pc := 33) (v := nI 0) dX8_together_33 (by decide) ?_
      refine J_callV0 (pc := 34) (M := mX8_together) (as := [.int (nI 1), .int (nI 0)]) dX8_together_34 fw_X8_isThrown fl_X8_35 fm_X8_isThrown fe_X8_isThrown h19 (by decide) rfl rfl rfl (c_X8_isThrown hs (d := d - 1) (Nat.le_trans (by decide) hdm) (w := w) (n := n) (mv := mv) (rw := rw) (nx := nx) (b := b) (bt := bt) (kn := kn) (en := en) (dn := dn) (rf := rf) (kk := kk) (th := th) ⟨h19, h20, h21, h22, hbb, hbl, hb3⟩ hn1 hn2 gm gr gx 1 0 (by first | assumption | omega) (by first | assumption | omega) (kc := 0) (ks := 0)) hdp (st := []) (Nat.le_of_ble_eq_true rfl) rfl (kr_I fun v4 w4 hv4 hw4 => ?_) kx_I
      obtain ⟨hR4, hFc4⟩ := hw4
      obtain ⟨h19_4, h20_4, h21_4, h22_4, hbb_4, hbl_4, hb3_4⟩ := hR4
      have hF4 := hF.tr hFc4
      subst hv4
      show J X mX8_together d kc ks 37 [some (.ref 19), some (.int (nI q2)), some (.int a), some (.int c), none, none] [.int (nI 1)] w4 _
      refine J_if_eqN (pc := 37) (tgt := 42) dX8_together_37 (by decide) (by decide) (fun h => absurd h (by decide)) (fun _ => ?_)
      refine J_iconst (pc := 40) (v := nI 0) dX8_together_40 (by decide) ?_
      exact J_iret (pc := 41) dX8_together_41 rfl ⟨trivial, ⟨rw, nI (tW 1 0), ⟨h19_4, h20_4, h21_4, h22_4, hbb_4, hbl_4, hb3_4⟩, hF4, gr⟩⟩
  · refine J_if_eqN (pc := 6) (tgt := 17) dX8_together_6 (by decide) (by decide) (fun h => absurd h (by decide)) (fun _ => ?_)
    refine J_aload_n (pc := 9) dX8_together_9 rfl rfl rfl ?_
    refine J_iload_n (pc := 10) dX8_together_10 rfl rfl ?_
    refine J_callV0 (pc := 11) (M := mX8_together) (as := [.int c]) dX8_together_11 fw_X8_isPoint fl_X8_118 fm_X8_isPoint fe_X8_isPoint h19 (by decide) rfl rfl rfl (c_X8_isPoint hs (d := d - 1) (Nat.le_trans (by decide) hdm) (w := w) (n := n) (mv := mv) (rw := rw) (nx := nx) (b := b) (bt := bt) (kn := kn) (en := en) (dn := dn) (rf := rf) (kk := kk) (th := th) ⟨h19, h20, h21, h22, hbb, hbl, hb3⟩ hn1 hn2 gm gr gx c (kc := 0) (ks := 0)) hdp (st := [.ref 19]) (Nat.le_of_ble_eq_true rfl) rfl (kr_P fun v5 hv5 => ?_) kx_I
    rcases hv5 with ⟨rfl, hk5_0⟩ | ⟨q5, rfl, hk5_0, rfl⟩
    · refine J_if_neN (pc := 14) (tgt := 21) dX8_together_14 (by decide) (by decide) (fun h => absurd h (by decide)) (fun _ => ?_)
      refine J_iconst (pc := 17) (v := nI 1) dX8_together_17 (by decide) ?_
      refine J_goto (pc := 18) (tgt := 22) dX8_together_18 (by decide) ?_
      refine J_iload_n (pc := 22) dX8_together_22 rfl rfl ?_
      refine J_callS0 (pc := 23) (M := mX8_together) (as := [.int s]) dX8_together_23 fw_X8_isSet fl_X8_134 fs_X8_isSet rfl (c_X8_isSet hs (d := d - 1) (Nat.le_trans (by decide) hdm) (w := w) s (kc := 0) (ks := 0)) hdp (st := [.int (nI 1), .ref 19]) (Nat.le_of_ble_eq_true rfl) rfl (kr_P fun v6 hv6 => ?_) kx_I
      rcases hv6 with ⟨rfl, hk6_0⟩ | ⟨q6, rfl, hk6_0, rfl⟩
      · refine J_if_neN (pc := 26) (tgt := 33) dX8_together_26 (by decide) (by decide) (fun h => absurd h (by decide)) (fun _ => ?_)
        refine J_iconst (pc := 29) (v := nI 1) dX8_together_29 (by decide) ?_
        refine J_goto (pc := 30) (tgt := 34) dX8_together_30 (by decide) ?_
        refine J_callV0 (pc := 34) (M := mX8_together) (as := [.int (nI 1), .int (nI 1)]) dX8_together_34 fw_X8_isThrown fl_X8_35 fm_X8_isThrown fe_X8_isThrown h19 (by decide) rfl rfl rfl (c_X8_isThrown hs (d := d - 1) (Nat.le_trans (by decide) hdm) (w := w) (n := n) (mv := mv) (rw := rw) (nx := nx) (b := b) (bt := bt) (kn := kn) (en := en) (dn := dn) (rf := rf) (kk := kk) (th := th) ⟨h19, h20, h21, h22, hbb, hbl, hb3⟩ hn1 hn2 gm gr gx 1 1 (by first | assumption | omega) (by first | assumption | omega) (kc := 0) (ks := 0)) hdp (st := []) (Nat.le_of_ble_eq_true rfl) rfl (kr_I fun v7 w7 hv7 hw7 => ?_) kx_I
        obtain ⟨hR7, hFc7⟩ := hw7
        obtain ⟨h19_7, h20_7, h21_7, h22_7, hbb_7, hbl_7, hb3_7⟩ := hR7
        have hF7 := hF.tr hFc7
        subst hv7
        show J X mX8_together d kc ks 37 [some (.ref 19), some (.int s), some (.int (nI q1)), some (.int c), none, none] [.int (nI 1)] w7 _
        refine J_if_eqN (pc := 37) (tgt := 42) dX8_together_37 (by decide) (by decide) (fun h => absurd h (by decide)) (fun _ => ?_)
        refine J_iconst (pc := 40) (v := nI 0) dX8_together_40 (by decide) ?_
        exact J_iret (pc := 41) dX8_together_41 rfl ⟨trivial, ⟨rw, nI (tW 1 1), ⟨h19_7, h20_7, h21_7, h22_7, hbb_7, hbl_7, hb3_7⟩, hF7, gr⟩⟩
      · refine J_if_neN (pc := 26) (tgt := 33) dX8_together_26 (by decide) (by decide) (fun _ => ?_) (fun h => absurd h (by decide))
        refine J_iconst (pc := 33) (v := nI 0) dX8_together_33 (by decide) ?_
        refine J_callV0 (pc := 34) (M := mX8_together) (as := [.int (nI 1), .int (nI 0)]) dX8_together_34 fw_X8_isThrown fl_X8_35 fm_X8_isThrown fe_X8_isThrown h19 (by decide) rfl rfl rfl (c_X8_isThrown hs (d := d - 1) (Nat.le_trans (by decide) hdm) (w := w) (n := n) (mv := mv) (rw := rw) (nx := nx) (b := b) (bt := bt) (kn := kn) (en := en) (dn := dn) (rf := rf) (kk := kk) (th := th) ⟨h19, h20, h21, h22, hbb, hbl, hb3⟩ hn1 hn2 gm gr gx 1 0 (by first | assumption | omega) (by first | assumption | omega) (kc := 0) (ks := 0)) hdp (st := []) (Nat.le_of_ble_eq_true rfl) rfl (kr_I fun v8 w8 hv8 hw8 => ?_) kx_I
        obtain ⟨hR8, hFc8⟩ := hw8
        obtain ⟨h19_8, h20_8, h21_8, h22_8, hbb_8, hbl_8, hb3_8⟩ := hR8
        have hF8 := hF.tr hFc8
        subst hv8
        show J X mX8_together d kc ks 37 [some (.ref 19), some (.int (nI q6)), some (.int (nI q1)), some (.int c), none, none] [.int (nI 1)] w8 _
        refine J_if_eqN (pc := 37) (tgt := 42) dX8_together_37 (by decide) (by decide) (fun h => absurd h (by decide)) (fun _ => ?_)
        refine J_iconst (pc := 40) (v := nI 0) dX8_together_40 (by decide) ?_
        exact J_iret (pc := 41) dX8_together_41 rfl ⟨trivial, ⟨rw, nI (tW 1 0), ⟨h19_8, h20_8, h21_8, h22_8, hbb_8, hbl_8, hb3_8⟩, hF8, gr⟩⟩
    · refine J_if_neN (pc := 14) (tgt := 21) dX8_together_14 (by decide) (by decide) (fun _ => ?_) (fun h => absurd h (by decide))
      refine J_iconst (pc := 21) (v := nI 0) dX8_together_21 (by decide) ?_
      refine J_iload_n (pc := 22) dX8_together_22 rfl rfl ?_
      refine J_callS0 (pc := 23) (M := mX8_together) (as := [.int s]) dX8_together_23 fw_X8_isSet fl_X8_134 fs_X8_isSet rfl (c_X8_isSet hs (d := d - 1) (Nat.le_trans (by decide) hdm) (w := w) s (kc := 0) (ks := 0)) hdp (st := [.int (nI 0), .ref 19]) (Nat.le_of_ble_eq_true rfl) rfl (kr_P fun v9 hv9 => ?_) kx_I
      rcases hv9 with ⟨rfl, hk9_0⟩ | ⟨q9, rfl, hk9_0, rfl⟩
      · refine J_if_neN (pc := 26) (tgt := 33) dX8_together_26 (by decide) (by decide) (fun h => absurd h (by decide)) (fun _ => ?_)
        refine J_iconst (pc := 29) (v := nI 1) dX8_together_29 (by decide) ?_
        refine J_goto (pc := 30) (tgt := 34) dX8_together_30 (by decide) ?_
        refine J_callV0 (pc := 34) (M := mX8_together) (as := [.int (nI 0), .int (nI 1)]) dX8_together_34 fw_X8_isThrown fl_X8_35 fm_X8_isThrown fe_X8_isThrown h19 (by decide) rfl rfl rfl (c_X8_isThrown hs (d := d - 1) (Nat.le_trans (by decide) hdm) (w := w) (n := n) (mv := mv) (rw := rw) (nx := nx) (b := b) (bt := bt) (kn := kn) (en := en) (dn := dn) (rf := rf) (kk := kk) (th := th) ⟨h19, h20, h21, h22, hbb, hbl, hb3⟩ hn1 hn2 gm gr gx 0 1 (by first | assumption | omega) (by first | assumption | omega) (kc := 0) (ks := 0)) hdp (st := []) (Nat.le_of_ble_eq_true rfl) rfl (kr_I fun v10 w10 hv10 hw10 => ?_) kx_I
        obtain ⟨hR10, hFc10⟩ := hw10
        obtain ⟨h19_10, h20_10, h21_10, h22_10, hbb_10, hbl_10, hb3_10⟩ := hR10
        have hF10 := hF.tr hFc10
        subst hv10
        show J X mX8_together d kc ks 37 [some (.ref 19), some (.int s), some (.int (nI q1)), some (.int (nI q5)), none, none] [.int (nI 1)] w10 _
        refine J_if_eqN (pc := 37) (tgt := 42) dX8_together_37 (by decide) (by decide) (fun h => absurd h (by decide)) (fun _ => ?_)
        refine J_iconst (pc := 40) (v := nI 0) dX8_together_40 (by decide) ?_
        exact J_iret (pc := 41) dX8_together_41 rfl ⟨trivial, ⟨rw, nI (tW 0 1), ⟨h19_10, h20_10, h21_10, h22_10, hbb_10, hbl_10, hb3_10⟩, hF10, gr⟩⟩
      · refine J_if_neN (pc := 26) (tgt := 33) dX8_together_26 (by decide) (by decide) (fun _ => ?_) (fun h => absurd h (by decide))
        refine J_iconst (pc := 33) (v := nI 0) dX8_together_33 (by decide) ?_
        refine J_callV0 (pc := 34) (M := mX8_together) (as := [.int (nI 0), .int (nI 0)]) dX8_together_34 fw_X8_isThrown fl_X8_35 fm_X8_isThrown fe_X8_isThrown h19 (by decide) rfl rfl rfl (c_X8_isThrown hs (d := d - 1) (Nat.le_trans (by decide) hdm) (w := w) (n := n) (mv := mv) (rw := rw) (nx := nx) (b := b) (bt := bt) (kn := kn) (en := en) (dn := dn) (rf := rf) (kk := kk) (th := th) ⟨h19, h20, h21, h22, hbb, hbl, hb3⟩ hn1 hn2 gm gr gx 0 0 (by first | assumption | omega) (by first | assumption | omega) (kc := 0) (ks := 0)) hdp (st := []) (Nat.le_of_ble_eq_true rfl) rfl (kr_I fun v11 w11 hv11 hw11 => ?_) kx_I
        obtain ⟨hR11, hFc11⟩ := hw11
        obtain ⟨h19_11, h20_11, h21_11, h22_11, hbb_11, hbl_11, hb3_11⟩ := hR11
        have hF11 := hF.tr hFc11
        subst hv11
        show J X mX8_together d kc ks 37 [some (.ref 19), some (.int (nI q9)), some (.int (nI q1)), some (.int (nI q5)), none, none] [.int (nI 0)] w11 _
        refine J_if_eqN (pc := 37) (tgt := 42) dX8_together_37 (by decide) (by decide) (fun _ => ?_) (fun h => absurd h (by decide))
        refine J_aload_n (pc := 42) dX8_together_42 rfl rfl rfl ?_
        refine J_iload_n (pc := 43) dX8_together_43 rfl rfl ?_
        refine J_iload_n (pc := 44) dX8_together_44 rfl rfl ?_
        refine J_iload_n (pc := 45) dX8_together_45 rfl rfl ?_
        refine J_callV0 (pc := 46) (M := mX8_together) (as := [.int (nI q9), .int (nI q1), .int (nI q5)]) dX8_together_46 fw_X8_part fl_X8_220 fm_X8_part fe_X8_part h19_11 (by decide) rfl rfl rfl (c_X8_part hs (d := d - 1) (Nat.le_trans (by decide) hdm) (w := w11) (n := n) (mv := mv) (rw := rw) (nx := nx) (b := b) (bt := bt) (kn := kn) (en := en) (dn := dn) (rf := rf) (kk := kk) (th := nI (tW 0 0)) ⟨h19_11, h20_11, h21_11, h22_11, hbb_11, hbl_11, hb3_11⟩ hn1 hn2 gm gr gx q9 q1 q5 (by first | assumption | omega) (by first | assumption | omega) (by first | assumption | omega) (by first | assumption | omega) (kc := 0) (ks := 0)) hdp (st := []) (Nat.le_of_ble_eq_true rfl) rfl (kr_V fun w12 hw12 => ?_) kx_V
        obtain ⟨rw12, hR12, hFc12, hgrw12⟩ := hw12
        obtain ⟨h19_12, h20_12, h21_12, h22_12, hbb_12, hbl_12, hb3_12⟩ := hR12
        have hF12 := hF11.tr hFc12
        refine J_iconst (pc := 49) (v := nI 0) dX8_together_49 (by decide) ?_
        refine J_istore (pc := 50) dX8_together_50 (by decide) rfl ?_
        show J X mX8_together d kc ks 52 [some (.ref 19), some (.int (nI q9)), some (.int (nI q1)), some (.int (nI q5)), some (.int (nI 0)), none] [] w12 _
        refine J_iconst (pc := 52) (v := nI 0) dX8_together_52 (by decide) ?_
        refine J_istore (pc := 53) dX8_together_53 (by decide) rfl ?_
        show J X mX8_together d kc ks 55 [some (.ref 19), some (.int (nI q9)), some (.int (nI q1)), some (.int (nI q5)), some (.int (nI 0)), some (.int (nI 0))] [] w12 _
        have lp55_13 : ∀ (fuel : Nat) (z4 : Int32) (c5 : Nat), (c5 ≤ n) → (n - c5 < fuel) → J X mX8_together d kc ks 55 [some (.ref 19), some (.int (nI q9)), some (.int (nI q1)), some (.int (nI q5)), some (.int z4), some (.int (nI c5))] [] w12 (pI (fun _ => True) (fun w' => ∃ (rw' : Nat → Nat), ∃ (th' : Int32), RM n mv rw' nx b bt kn en dn rf kk th' w' ∧ FR b b w w' ∧ (∀ i, rw' i < 7))) := by
          intro fuellp55_13
          induction fuellp55_13 with
          | zero => intros; omega
          | succ fuellp55_13 ihlp55_13 =>
            intro z4 c5 hv55_0 hf14
            refine J_iload (pc := 55) dX8_together_55 rfl ?_
            refine J_aload_n (pc := 57) dX8_together_57 rfl rfl rfl ?_
            refine J_get (pc := 58) (k := 0) dX8_together_58 kC9 (by decide) ff_X8_7 h19_12 rfl ?_
            refine J_icmp_geN (pc := 61) (tgt := 95) dX8_together_61 (by decide) (by omega) (by omega) (fun ht15 => ?_) (fun hf16 => ?_)
            · refine J_iload (pc := 95) dX8_together_95 rfl ?_
              exact J_iret (pc := 97) dX8_together_97 rfl ⟨trivial, ⟨rw12, nI (tW 0 0), ⟨h19_12, h20_12, h21_12, h22_12, hbb_12, hbl_12, hb3_12⟩, hF12, hgrw12⟩⟩
            · refine J_aload_n (pc := 64) dX8_together_64 rfl rfl rfl ?_
              refine J_get (pc := 65) (k := 2) dX8_together_65 kC9 (by decide) ff_X8_17 h19_12 rfl ?_
              refine J_iload (pc := 68) dX8_together_68 rfl ?_
              refine J_ialdF (pc := 70) dX8_together_70 h21_12 (by omega) (by decide) ?_
              have hq17 := hgrw12 c5
              refine J_aload_n (pc := 71) dX8_together_71 rfl rfl rfl ?_
              refine J_get (pc := 72) (k := 2) dX8_together_72 kC9 (by decide) ff_X8_17 h19_12 rfl ?_
              refine J_iload_n (pc := 75) dX8_together_75 rfl rfl ?_
              refine J_ialdF (pc := 76) dX8_together_76 h21_12 (by omega) (by decide) ?_
              have hq18 := hgrw12 q1
              refine J_icmp_neN (pc := 77) (tgt := 89) dX8_together_77 (by decide) (by omega) (by omega) (fun ht19 => ?_) (fun hf20 => ?_)
              · refine J_iincN (pc := 89) (b := 1) dX8_together_89 rfl (by decide) (by decide) rfl ?_
                show J X mX8_together d kc ks 92 [some (.ref 19), some (.int (nI q9)), some (.int (nI q1)), some (.int (nI q5)), some (.int z4), some (.int (nI (c5 + 1)))] [] w12 _
                refine J_goto (pc := 92) (tgt := 55) dX8_together_92 (by decide) ?_
                exact J_sub (L' := [some (.ref 19), some (.int (nI q9)), some (.int (nI q1)), some (.int (nI q5)), some (.int z4), some (.int (nI (c5 + 1)))]) ⟨rfl, ⟨rfl, ⟨rfl, ⟨rfl, ⟨rfl, ⟨rfl, trivial⟩⟩⟩⟩⟩⟩ (ihlp55_13 z4 (c5 + 1) (by first | assumption | omega) (by omega))
              · refine J_iload (pc := 80) dX8_together_80 rfl ?_
                refine J_iconst (pc := 82) (v := nI 1) dX8_together_82 (by decide) ?_
                refine J_iload (pc := 83) dX8_together_83 rfl ?_
                refine J_ishl (pc := 85) dX8_together_85 (J_absI fun x21 => ?_)
                refine J_ior (pc := 86) dX8_together_86 (J_absI fun x22 => ?_)
                refine J_istore (pc := 87) dX8_together_87 (by decide) rfl ?_
                show J X mX8_together d kc ks 89 [some (.ref 19), some (.int (nI q9)), some (.int (nI q1)), some (.int (nI q5)), some (.int x22), some (.int (nI c5))] [] w12 _
                refine J_iincN (pc := 89) (b := 1) dX8_together_89 rfl (by decide) (by decide) rfl ?_
                show J X mX8_together d kc ks 92 [some (.ref 19), some (.int (nI q9)), some (.int (nI q1)), some (.int (nI q5)), some (.int x22), some (.int (nI (c5 + 1)))] [] w12 _
                refine J_goto (pc := 92) (tgt := 55) dX8_together_92 (by decide) ?_
                exact J_sub (L' := [some (.ref 19), some (.int (nI q9)), some (.int (nI q1)), some (.int (nI q5)), some (.int x22), some (.int (nI (c5 + 1)))]) ⟨rfl, ⟨rfl, ⟨rfl, ⟨rfl, ⟨rfl, ⟨rfl, trivial⟩⟩⟩⟩⟩⟩ (ihlp55_13 x22 (c5 + 1) (by first | assumption | omega) (by omega))
        exact J_sub (L' := [some (.ref 19), some (.int (nI q9)), some (.int (nI q1)), some (.int (nI q5)), some (.int (nI 0)), some (.int (nI 0))]) ⟨rfl, ⟨rfl, ⟨rfl, ⟨rfl, ⟨rfl, ⟨rfl, trivial⟩⟩⟩⟩⟩⟩ (lp55_13 _ (nI 0) 0 (by first | assumption | omega) (Nat.lt_succ_self _))
set_option maxRecDepth 100000 in
set_option maxHeartbeats 40000000 in
theorem c_X8_blocks {X : jX} (hs : X.1.stackTraces = false) {d : Nat} (hd : 2 ≤ d) {n : Nat} {mv rw nx : Nat → Nat} {b : Nat} {bt : List Int32} {kn en dn rf kk th : Int32} {w : List jC} (hR : RM n mv rw nx b bt kn en dn rf kk th w) (hn1 : 2 ≤ n) (hn2 : n ≤ 7) (gm : ∀ i, mv i < 7) (gr : ∀ i, rw i < 7) (gx : ∀ i, nx i < 7) (s : Int32) (a : Int32) (c : Int32) (hy0 : PM n mv) {kc ks : Nat} : jMet X mX8_blocks d kc ks [.ref 19, .int s, .int a, .int c] w (pI (fun _ => True) (fun w' => ∃ (rw' : Nat → Nat), ∃ (th' : Int32), RM n mv rw' nx b bt kn en dn rf kk th' w' ∧ FR b b w w' ∧ (∀ i, rw' i < 7))) := by
  refine jMet_of hs (by decide +kernel) (Nat.le_of_ble_eq_true rfl) (L := [some (.ref 19), some (.int s), some (.int a), some (.int c), none, none]) rfl ?_
  have hdm : 1 ≤ d - 1 := by omega
  have hdp : d - 1 + 1 ≤ d := by omega
  have hfc := fc_7 hn2
  have hfp := fc_pos n
  obtain ⟨h19, h20, h21, h22, hbb, hbl, hb3⟩ := hR
  have hF : FR b b w w := FR.rf
  refine J_aload_n (pc := 0) dX8_blocks_0 rfl rfl rfl ?_
  refine J_aload_n (pc := 1) dX8_blocks_1 rfl rfl rfl ?_
  refine J_iload_n (pc := 2) dX8_blocks_2 rfl rfl ?_
  refine J_callV0 (pc := 3) (M := mX8_blocks) (as := [.int a]) dX8_blocks_3 fw_X8_isPoint fl_X8_118 fm_X8_isPoint fe_X8_isPoint h19 (by decide) rfl rfl rfl (c_X8_isPoint hs (d := d - 1) (Nat.le_trans (by decide) hdm) (w := w) (n := n) (mv := mv) (rw := rw) (nx := nx) (b := b) (bt := bt) (kn := kn) (en := en) (dn := dn) (rf := rf) (kk := kk) (th := th) ⟨h19, h20, h21, h22, hbb, hbl, hb3⟩ hn1 hn2 gm gr gx a (kc := 0) (ks := 0)) hdp (st := [.ref 19]) (Nat.le_of_ble_eq_true rfl) rfl (kr_P fun v1 hv1 => ?_) kx_I
  rcases hv1 with ⟨rfl, hk1_0⟩ | ⟨q1, rfl, hk1_0, rfl⟩
  · refine J_if_eqN (pc := 6) (tgt := 17) dX8_blocks_6 (by decide) (by decide) (fun _ => ?_) (fun h => absurd h (by decide))
    refine J_iconst (pc := 17) (v := nI 1) dX8_blocks_17 (by decide) ?_
    refine J_goto (pc := 18) (tgt := 22) dX8_blocks_18 (by decide) ?_
    refine J_iload_n (pc := 22) dX8_blocks_22 rfl rfl ?_
    refine J_callS0 (pc := 23) (M := mX8_blocks) (as := [.int s]) dX8_blocks_23 fw_X8_isSet fl_X8_134 fs_X8_isSet rfl (c_X8_isSet hs (d := d - 1) (Nat.le_trans (by decide) hdm) (w := w) s (kc := 0) (ks := 0)) hdp (st := [.int (nI 1), .ref 19]) (Nat.le_of_ble_eq_true rfl) rfl (kr_P fun v2 hv2 => ?_) kx_I
    rcases hv2 with ⟨rfl, hk2_0⟩ | ⟨q2, rfl, hk2_0, rfl⟩
    · refine J_if_neN (pc := 26) (tgt := 33) dX8_blocks_26 (by decide) (by decide) (fun h => absurd h (by decide)) (fun _ => ?_)
      refine J_iconst (pc := 29) (v := nI 1) dX8_blocks_29 (by decide) ?_
      refine J_goto (pc := 30) (tgt := 34) dX8_blocks_30 (by decide) ?_
      refine J_callV0 (pc := 34) (M := mX8_blocks) (as := [.int (nI 1), .int (nI 1)]) dX8_blocks_34 fw_X8_isThrown fl_X8_35 fm_X8_isThrown fe_X8_isThrown h19 (by decide) rfl rfl rfl (c_X8_isThrown hs (d := d - 1) (Nat.le_trans (by decide) hdm) (w := w) (n := n) (mv := mv) (rw := rw) (nx := nx) (b := b) (bt := bt) (kn := kn) (en := en) (dn := dn) (rf := rf) (kk := kk) (th := th) ⟨h19, h20, h21, h22, hbb, hbl, hb3⟩ hn1 hn2 gm gr gx 1 1 (by first | assumption | omega) (by first | assumption | omega) (kc := 0) (ks := 0)) hdp (st := []) (Nat.le_of_ble_eq_true rfl) rfl (kr_I fun v3 w3 hv3 hw3 => ?_) kx_I
      obtain ⟨hR3, hFc3⟩ := hw3
      obtain ⟨h19_3, h20_3, h21_3, h22_3, hbb_3, hbl_3, hb3_3⟩ := hR3
      have hF3 := hF.tr hFc3
      subst hv3
      show J X mX8_blocks d kc ks 37 [some (.ref 19), some (.int s), some (.int a), some (.int c), none, none] [.int (nI 1)] w3 _
      refine J_if_eqN (pc := 37) (tgt := 42) dX8_blocks_37 (by decide) (by decide) (fun h => absurd h (by decide)) (fun _ => ?_)
      refine J_iconst (pc := 40) (v := nI 0) dX8_blocks_40 (by decide) ?_
      exact J_iret (pc := 41) dX8_blocks_41 rfl ⟨trivial, ⟨rw, nI (tW 1 1), ⟨h19_3, h20_3, h21_3, h22_3, hbb_3, hbl_3, hb3_3⟩, hF3, gr⟩⟩
    · refine J_if_neN (pc := 26) (tgt := 33) dX8_blocks_26 (by decide) (by decide) (fun _ => ?_) (fun h => absurd h (by decide))
      refine J_iconst (pc := 33) (v := nI 0) dX8_blocks_33 (by decide) ?_
      refine J_callV0 (pc := 34) (M := mX8_blocks) (as := [.int (nI 1), .int (nI 0)]) dX8_blocks_34 fw_X8_isThrown fl_X8_35 fm_X8_isThrown fe_X8_isThrown h19 (by decide) rfl rfl rfl (c_X8_isThrown hs (d := d - 1) (Nat.le_trans (by decide) hdm) (w := w) (n := n) (mv := mv) (rw := rw) (nx := nx) (b := b) (bt := bt) (kn := kn) (en := en) (dn := dn) (rf := rf) (kk := kk) (th := th) ⟨h19, h20, h21, h22, hbb, hbl, hb3⟩ hn1 hn2 gm gr gx 1 0 (by first | assumption | omega) (by first | assumption | omega) (kc := 0) (ks := 0)) hdp (st := []) (Nat.le_of_ble_eq_true rfl) rfl (kr_I fun v4 w4 hv4 hw4 => ?_) kx_I
      obtain ⟨hR4, hFc4⟩ := hw4
      obtain ⟨h19_4, h20_4, h21_4, h22_4, hbb_4, hbl_4, hb3_4⟩ := hR4
      have hF4 := hF.tr hFc4
      subst hv4
      show J X mX8_blocks d kc ks 37 [some (.ref 19), some (.int (nI q2)), some (.int a), some (.int c), none, none] [.int (nI 1)] w4 _
      refine J_if_eqN (pc := 37) (tgt := 42) dX8_blocks_37 (by decide) (by decide) (fun h => absurd h (by decide)) (fun _ => ?_)
      refine J_iconst (pc := 40) (v := nI 0) dX8_blocks_40 (by decide) ?_
      exact J_iret (pc := 41) dX8_blocks_41 rfl ⟨trivial, ⟨rw, nI (tW 1 0), ⟨h19_4, h20_4, h21_4, h22_4, hbb_4, hbl_4, hb3_4⟩, hF4, gr⟩⟩
  · refine J_if_eqN (pc := 6) (tgt := 17) dX8_blocks_6 (by decide) (by decide) (fun h => absurd h (by decide)) (fun _ => ?_)
    refine J_aload_n (pc := 9) dX8_blocks_9 rfl rfl rfl ?_
    refine J_iload_n (pc := 10) dX8_blocks_10 rfl rfl ?_
    refine J_callV0 (pc := 11) (M := mX8_blocks) (as := [.int c]) dX8_blocks_11 fw_X8_isPoint fl_X8_118 fm_X8_isPoint fe_X8_isPoint h19 (by decide) rfl rfl rfl (c_X8_isPoint hs (d := d - 1) (Nat.le_trans (by decide) hdm) (w := w) (n := n) (mv := mv) (rw := rw) (nx := nx) (b := b) (bt := bt) (kn := kn) (en := en) (dn := dn) (rf := rf) (kk := kk) (th := th) ⟨h19, h20, h21, h22, hbb, hbl, hb3⟩ hn1 hn2 gm gr gx c (kc := 0) (ks := 0)) hdp (st := [.ref 19]) (Nat.le_of_ble_eq_true rfl) rfl (kr_P fun v5 hv5 => ?_) kx_I
    rcases hv5 with ⟨rfl, hk5_0⟩ | ⟨q5, rfl, hk5_0, rfl⟩
    · refine J_if_neN (pc := 14) (tgt := 21) dX8_blocks_14 (by decide) (by decide) (fun h => absurd h (by decide)) (fun _ => ?_)
      refine J_iconst (pc := 17) (v := nI 1) dX8_blocks_17 (by decide) ?_
      refine J_goto (pc := 18) (tgt := 22) dX8_blocks_18 (by decide) ?_
      refine J_iload_n (pc := 22) dX8_blocks_22 rfl rfl ?_
      refine J_callS0 (pc := 23) (M := mX8_blocks) (as := [.int s]) dX8_blocks_23 fw_X8_isSet fl_X8_134 fs_X8_isSet rfl (c_X8_isSet hs (d := d - 1) (Nat.le_trans (by decide) hdm) (w := w) s (kc := 0) (ks := 0)) hdp (st := [.int (nI 1), .ref 19]) (Nat.le_of_ble_eq_true rfl) rfl (kr_P fun v6 hv6 => ?_) kx_I
      rcases hv6 with ⟨rfl, hk6_0⟩ | ⟨q6, rfl, hk6_0, rfl⟩
      · refine J_if_neN (pc := 26) (tgt := 33) dX8_blocks_26 (by decide) (by decide) (fun h => absurd h (by decide)) (fun _ => ?_)
        refine J_iconst (pc := 29) (v := nI 1) dX8_blocks_29 (by decide) ?_
        refine J_goto (pc := 30) (tgt := 34) dX8_blocks_30 (by decide) ?_
        refine J_callV0 (pc := 34) (M := mX8_blocks) (as := [.int (nI 1), .int (nI 1)]) dX8_blocks_34 fw_X8_isThrown fl_X8_35 fm_X8_isThrown fe_X8_isThrown h19 (by decide) rfl rfl rfl (c_X8_isThrown hs (d := d - 1) (Nat.le_trans (by decide) hdm) (w := w) (n := n) (mv := mv) (rw := rw) (nx := nx) (b := b) (bt := bt) (kn := kn) (en := en) (dn := dn) (rf := rf) (kk := kk) (th := th) ⟨h19, h20, h21, h22, hbb, hbl, hb3⟩ hn1 hn2 gm gr gx 1 1 (by first | assumption | omega) (by first | assumption | omega) (kc := 0) (ks := 0)) hdp (st := []) (Nat.le_of_ble_eq_true rfl) rfl (kr_I fun v7 w7 hv7 hw7 => ?_) kx_I
        obtain ⟨hR7, hFc7⟩ := hw7
        obtain ⟨h19_7, h20_7, h21_7, h22_7, hbb_7, hbl_7, hb3_7⟩ := hR7
        have hF7 := hF.tr hFc7
        subst hv7
        show J X mX8_blocks d kc ks 37 [some (.ref 19), some (.int s), some (.int (nI q1)), some (.int c), none, none] [.int (nI 1)] w7 _
        refine J_if_eqN (pc := 37) (tgt := 42) dX8_blocks_37 (by decide) (by decide) (fun h => absurd h (by decide)) (fun _ => ?_)
        refine J_iconst (pc := 40) (v := nI 0) dX8_blocks_40 (by decide) ?_
        exact J_iret (pc := 41) dX8_blocks_41 rfl ⟨trivial, ⟨rw, nI (tW 1 1), ⟨h19_7, h20_7, h21_7, h22_7, hbb_7, hbl_7, hb3_7⟩, hF7, gr⟩⟩
      · refine J_if_neN (pc := 26) (tgt := 33) dX8_blocks_26 (by decide) (by decide) (fun _ => ?_) (fun h => absurd h (by decide))
        refine J_iconst (pc := 33) (v := nI 0) dX8_blocks_33 (by decide) ?_
        refine J_callV0 (pc := 34) (M := mX8_blocks) (as := [.int (nI 1), .int (nI 0)]) dX8_blocks_34 fw_X8_isThrown fl_X8_35 fm_X8_isThrown fe_X8_isThrown h19 (by decide) rfl rfl rfl (c_X8_isThrown hs (d := d - 1) (Nat.le_trans (by decide) hdm) (w := w) (n := n) (mv := mv) (rw := rw) (nx := nx) (b := b) (bt := bt) (kn := kn) (en := en) (dn := dn) (rf := rf) (kk := kk) (th := th) ⟨h19, h20, h21, h22, hbb, hbl, hb3⟩ hn1 hn2 gm gr gx 1 0 (by first | assumption | omega) (by first | assumption | omega) (kc := 0) (ks := 0)) hdp (st := []) (Nat.le_of_ble_eq_true rfl) rfl (kr_I fun v8 w8 hv8 hw8 => ?_) kx_I
        obtain ⟨hR8, hFc8⟩ := hw8
        obtain ⟨h19_8, h20_8, h21_8, h22_8, hbb_8, hbl_8, hb3_8⟩ := hR8
        have hF8 := hF.tr hFc8
        subst hv8
        show J X mX8_blocks d kc ks 37 [some (.ref 19), some (.int (nI q6)), some (.int (nI q1)), some (.int c), none, none] [.int (nI 1)] w8 _
        refine J_if_eqN (pc := 37) (tgt := 42) dX8_blocks_37 (by decide) (by decide) (fun h => absurd h (by decide)) (fun _ => ?_)
        refine J_iconst (pc := 40) (v := nI 0) dX8_blocks_40 (by decide) ?_
        exact J_iret (pc := 41) dX8_blocks_41 rfl ⟨trivial, ⟨rw, nI (tW 1 0), ⟨h19_8, h20_8, h21_8, h22_8, hbb_8, hbl_8, hb3_8⟩, hF8, gr⟩⟩
    · refine J_if_neN (pc := 14) (tgt := 21) dX8_blocks_14 (by decide) (by decide) (fun _ => ?_) (fun h => absurd h (by decide))
      refine J_iconst (pc := 21) (v := nI 0) dX8_blocks_21 (by decide) ?_
      refine J_iload_n (pc := 22) dX8_blocks_22 rfl rfl ?_
      refine J_callS0 (pc := 23) (M := mX8_blocks) (as := [.int s]) dX8_blocks_23 fw_X8_isSet fl_X8_134 fs_X8_isSet rfl (c_X8_isSet hs (d := d - 1) (Nat.le_trans (by decide) hdm) (w := w) s (kc := 0) (ks := 0)) hdp (st := [.int (nI 0), .ref 19]) (Nat.le_of_ble_eq_true rfl) rfl (kr_P fun v9 hv9 => ?_) kx_I
      rcases hv9 with ⟨rfl, hk9_0⟩ | ⟨q9, rfl, hk9_0, rfl⟩
      · refine J_if_neN (pc := 26) (tgt := 33) dX8_blocks_26 (by decide) (by decide) (fun h => absurd h (by decide)) (fun _ => ?_)
        refine J_iconst (pc := 29) (v := nI 1) dX8_blocks_29 (by decide) ?_
        refine J_goto (pc := 30) (tgt := 34) dX8_blocks_30 (by decide) ?_
        refine J_callV0 (pc := 34) (M := mX8_blocks) (as := [.int (nI 0), .int (nI 1)]) dX8_blocks_34 fw_X8_isThrown fl_X8_35 fm_X8_isThrown fe_X8_isThrown h19 (by decide) rfl rfl rfl (c_X8_isThrown hs (d := d - 1) (Nat.le_trans (by decide) hdm) (w := w) (n := n) (mv := mv) (rw := rw) (nx := nx) (b := b) (bt := bt) (kn := kn) (en := en) (dn := dn) (rf := rf) (kk := kk) (th := th) ⟨h19, h20, h21, h22, hbb, hbl, hb3⟩ hn1 hn2 gm gr gx 0 1 (by first | assumption | omega) (by first | assumption | omega) (kc := 0) (ks := 0)) hdp (st := []) (Nat.le_of_ble_eq_true rfl) rfl (kr_I fun v10 w10 hv10 hw10 => ?_) kx_I
        obtain ⟨hR10, hFc10⟩ := hw10
        obtain ⟨h19_10, h20_10, h21_10, h22_10, hbb_10, hbl_10, hb3_10⟩ := hR10
        have hF10 := hF.tr hFc10
        subst hv10
        show J X mX8_blocks d kc ks 37 [some (.ref 19), some (.int s), some (.int (nI q1)), some (.int (nI q5)), none, none] [.int (nI 1)] w10 _
        refine J_if_eqN (pc := 37) (tgt := 42) dX8_blocks_37 (by decide) (by decide) (fun h => absurd h (by decide)) (fun _ => ?_)
        refine J_iconst (pc := 40) (v := nI 0) dX8_blocks_40 (by decide) ?_
        exact J_iret (pc := 41) dX8_blocks_41 rfl ⟨trivial, ⟨rw, nI (tW 0 1), ⟨h19_10, h20_10, h21_10, h22_10, hbb_10, hbl_10, hb3_10⟩, hF10, gr⟩⟩
      · refine J_if_neN (pc := 26) (tgt := 33) dX8_blocks_26 (by decide) (by decide) (fun _ => ?_) (fun h => absurd h (by decide))
        refine J_iconst (pc := 33) (v := nI 0) dX8_blocks_33 (by decide) ?_
        refine J_callV0 (pc := 34) (M := mX8_blocks) (as := [.int (nI 0), .int (nI 0)]) dX8_blocks_34 fw_X8_isThrown fl_X8_35 fm_X8_isThrown fe_X8_isThrown h19 (by decide) rfl rfl rfl (c_X8_isThrown hs (d := d - 1) (Nat.le_trans (by decide) hdm) (w := w) (n := n) (mv := mv) (rw := rw) (nx := nx) (b := b) (bt := bt) (kn := kn) (en := en) (dn := dn) (rf := rf) (kk := kk) (th := th) ⟨h19, h20, h21, h22, hbb, hbl, hb3⟩ hn1 hn2 gm gr gx 0 0 (by first | assumption | omega) (by first | assumption | omega) (kc := 0) (ks := 0)) hdp (st := []) (Nat.le_of_ble_eq_true rfl) rfl (kr_I fun v11 w11 hv11 hw11 => ?_) kx_I
        obtain ⟨hR11, hFc11⟩ := hw11
        obtain ⟨h19_11, h20_11, h21_11, h22_11, hbb_11, hbl_11, hb3_11⟩ := hR11
        have hF11 := hF.tr hFc11
        subst hv11
        show J X mX8_blocks d kc ks 37 [some (.ref 19), some (.int (nI q9)), some (.int (nI q1)), some (.int (nI q5)), none, none] [.int (nI 0)] w11 _
        refine J_if_eqN (pc := 37) (tgt := 42) dX8_blocks_37 (by decide) (by decide) (fun _ => ?_) (fun h => absurd h (by decide))
        refine J_aload_n (pc := 42) dX8_blocks_42 rfl rfl rfl ?_
        refine J_iload_n (pc := 43) dX8_blocks_43 rfl rfl ?_
        refine J_iload_n (pc := 44) dX8_blocks_44 rfl rfl ?_
        refine J_iload_n (pc := 45) dX8_blocks_45 rfl rfl ?_
        refine J_callV0 (pc := 46) (M := mX8_blocks) (as := [.int (nI q9), .int (nI q1), .int (nI q5)]) dX8_blocks_46 fw_X8_part fl_X8_220 fm_X8_part fe_X8_part h19_11 (by decide) rfl rfl rfl (c_X8_part hs (d := d - 1) (Nat.le_trans (by decide) hdm) (w := w11) (n := n) (mv := mv) (rw := rw) (nx := nx) (b := b) (bt := bt) (kn := kn) (en := en) (dn := dn) (rf := rf) (kk := kk) (th := nI (tW 0 0)) ⟨h19_11, h20_11, h21_11, h22_11, hbb_11, hbl_11, hb3_11⟩ hn1 hn2 gm gr gx q9 q1 q5 (by first | assumption | omega) (by first | assumption | omega) (by first | assumption | omega) (by first | assumption | omega) (kc := 0) (ks := 0)) hdp (st := []) (Nat.le_of_ble_eq_true rfl) rfl (kr_V fun w12 hw12 => ?_) kx_V
        obtain ⟨rw12, hR12, hFc12, hgrw12⟩ := hw12
        obtain ⟨h19_12, h20_12, h21_12, h22_12, hbb_12, hbl_12, hb3_12⟩ := hR12
        have hF12 := hF11.tr hFc12
        refine J_iconst (pc := 49) (v := nI 0) dX8_blocks_49 (by decide) ?_
        refine J_istore (pc := 50) dX8_blocks_50 (by decide) rfl ?_
        show J X mX8_blocks d kc ks 52 [some (.ref 19), some (.int (nI q9)), some (.int (nI q1)), some (.int (nI q5)), some (.int (nI 0)), none] [] w12 _
        refine J_iconst (pc := 52) (v := nI 0) dX8_blocks_52 (by decide) ?_
        refine J_istore (pc := 53) dX8_blocks_53 (by decide) rfl ?_
        show J X mX8_blocks d kc ks 55 [some (.ref 19), some (.int (nI q9)), some (.int (nI q1)), some (.int (nI q5)), some (.int (nI 0)), some (.int (nI 0))] [] w12 _
        have lp55_13 : ∀ (fuel : Nat) (z4 : Int32) (c5 : Nat), (c5 ≤ n) → (n - c5 < fuel) → J X mX8_blocks d kc ks 55 [some (.ref 19), some (.int (nI q9)), some (.int (nI q1)), some (.int (nI q5)), some (.int z4), some (.int (nI c5))] [] w12 (pI (fun _ => True) (fun w' => ∃ (rw' : Nat → Nat), ∃ (th' : Int32), RM n mv rw' nx b bt kn en dn rf kk th' w' ∧ FR b b w w' ∧ (∀ i, rw' i < 7))) := by
          intro fuellp55_13
          induction fuellp55_13 with
          | zero => intros; omega
          | succ fuellp55_13 ihlp55_13 =>
            intro z4 c5 hv55_0 hf14
            refine J_iload (pc := 55) dX8_blocks_55 rfl ?_
            refine J_aload_n (pc := 57) dX8_blocks_57 rfl rfl rfl ?_
            refine J_get (pc := 58) (k := 0) dX8_blocks_58 kC9 (by decide) ff_X8_7 h19_12 rfl ?_
            refine J_icmp_geN (pc := 61) (tgt := 84) dX8_blocks_61 (by decide) (by omega) (by omega) (fun ht15 => ?_) (fun hf16 => ?_)
            · refine J_iload (pc := 84) dX8_blocks_84 rfl ?_
              refine J_callS0 (pc := 86) (M := mX8_blocks) (as := [.int z4]) dX8_blocks_86 fw_J6_bitCount_0f7a4 fl_X8_96 fs_J6_bitCount_0f7a4 rfl (c_J6_bitCount_0f7a4 hs (d := d - 1) (Nat.le_trans (by decide) hdm) (w := w12) z4 (kc := 0) (ks := 0)) hdp (st := []) (Nat.le_of_ble_eq_true rfl) rfl (kr_P fun v17 hv17 => ?_) kx_I
              obtain ⟨k17, rfl, hk17⟩ := hv17
              exact J_iret (pc := 89) dX8_blocks_89 rfl ⟨trivial, ⟨rw12, nI (tW 0 0), ⟨h19_12, h20_12, h21_12, h22_12, hbb_12, hbl_12, hb3_12⟩, hF12, hgrw12⟩⟩
            · refine J_iload (pc := 64) dX8_blocks_64 rfl ?_
              refine J_iconst (pc := 66) (v := nI 1) dX8_blocks_66 (by decide) ?_
              refine J_aload_n (pc := 67) dX8_blocks_67 rfl rfl rfl ?_
              refine J_get (pc := 68) (k := 2) dX8_blocks_68 kC9 (by decide) ff_X8_17 h19_12 rfl ?_
              refine J_iload (pc := 71) dX8_blocks_71 rfl ?_
              refine J_ialdF (pc := 73) dX8_blocks_73 h21_12 (by omega) (by decide) ?_
              have hq18 := hgrw12 c5
              refine J_ishl (pc := 74) dX8_blocks_74 (J_absI fun x19 => ?_)
              refine J_ior (pc := 75) dX8_blocks_75 (J_absI fun x20 => ?_)
              refine J_istore (pc := 76) dX8_blocks_76 (by decide) rfl ?_
              show J X mX8_blocks d kc ks 78 [some (.ref 19), some (.int (nI q9)), some (.int (nI q1)), some (.int (nI q5)), some (.int x20), some (.int (nI c5))] [] w12 _
              refine J_iincN (pc := 78) (b := 1) dX8_blocks_78 rfl (by decide) (by decide) rfl ?_
              show J X mX8_blocks d kc ks 81 [some (.ref 19), some (.int (nI q9)), some (.int (nI q1)), some (.int (nI q5)), some (.int x20), some (.int (nI (c5 + 1)))] [] w12 _
              refine J_goto (pc := 81) (tgt := 55) dX8_blocks_81 (by decide) ?_
              exact J_sub (L' := [some (.ref 19), some (.int (nI q9)), some (.int (nI q1)), some (.int (nI q5)), some (.int x20), some (.int (nI (c5 + 1)))]) ⟨rfl, ⟨rfl, ⟨rfl, ⟨rfl, ⟨rfl, ⟨rfl, trivial⟩⟩⟩⟩⟩⟩ (ihlp55_13 x20 (c5 + 1) (by first | assumption | omega) (by omega))
        exact J_sub (L' := [some (.ref 19), some (.int (nI q9)), some (.int (nI q1)), some (.int (nI q5)), some (.int (nI 0)), some (.int (nI 0))]) ⟨rfl, ⟨rfl, ⟨rfl, ⟨rfl, ⟨rfl, ⟨rfl, trivial⟩⟩⟩⟩⟩⟩ (lp55_13 _ (nI 0) 0 (by first | assumption | omega) (Nat.lt_succ_self _))
