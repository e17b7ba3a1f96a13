section
/-! contracts of the reference: rspec4 -/
set_option maxRecDepth 100000 in
set_option maxHeartbeats 40000000 in
theorem c_X8_together {X : jX} (hs : X.1.stackTraces = false) {d : Nat} (hd : 2 ≤ d) {n : Nat} {mv rw nx : Nat → Nat} {b : Nat} {bt : List Int32} {kn en dn rf kk th : Int32} {w : List jC} (hR : RM n mv rw nx b bt kn en dn rf kk th w) (hn1 : 2 ≤ n) (hn2 : n ≤ 7) (gm : ∀ i, mv i < 7) (gr : ∀ i, rw i < 7) (gx : ∀ i, nx i < 7) (s : Int32) (a : Int32) (c : Int32) (hy0 : PM n mv) {kc ks : Nat} : jMet X mX8_together d kc ks [.ref 19, .int s, .int a, .int c] w (pI (fun _ => True) (fun w' => ∃ (rw' : Nat → Nat), ∃ (th' : Int32), RM n mv rw' nx b bt kn en dn rf kk th' w' ∧ FR b b w w' ∧ (∀ i, rw' i < 7))) := by
  refine jMet_of hs (by decide +kernel) (Nat.le_of_ble_eq_true rfl) (L := [some (.ref 19), some (.int s), some (.int a), some (.int c), none, none]) rfl ?_
  have hdm : 1 ≤ d - 1 := by omega
  have hdp : d - 1 + 1 ≤ d := by omega
  have hfc := fc_7 hn2
  have hfp := fc_pos n
  obtain ⟨h19, h20, h21, h22, hbb, hbl, hb3⟩ := hR
  have hF : FR b b w w := FR.rf
  refine J_aload_n (pc := 0) dX8_together_0 rfl rfl rfl ?_
  refine J_aload_n (pc := 1) dX8_together_1 rfl rfl rfl ?_
  refine J_iload_n (pc := 2) dX8_together_2 rfl rfl ?_
  refine J_callV0 (pc := 3) (M := mX8_together) (as := [.int a]) dX8_together_3 fw_X8_isPoint fl_X8_118 fm_X8_isPoint fe_X8_isPoint h19 (by decide) rfl rfl rfl (c_X8_isPoint hs (d := d - 1) (Nat.le_trans (by decide) hdm) (w := w) (n := n) (mv := mv) (rw := rw) (nx := nx) (b := b) (bt := bt) (kn := kn) (en := en) (dn := dn) (rf := rf) (kk := kk) (th := th) ⟨h19, h20, h21, h22, hbb, hbl, hb3⟩ hn1 hn2 gm gr gx a (kc := 0) (ks := 0)) hdp (st := [.ref 19]) (Nat.le_of_ble_eq_true rfl) rfl (kr_P fun v1 hv1 => ?_) kx_I
  rcases hv1 with ⟨rfl, hk1_0⟩ | ⟨q1, rfl, hk1_0, rfl⟩
  · refine J_if_eqN (pc := 6) (tgt := 17) dX8_together_6 (by decide) (by decide) (fun _ => ?_) (fun h => absurd h (by decide))
    refine J_iconst (pc := 17) (v := nI 1) dX8_together_17 (by decide) ?_
    refine J_goto (pc := 18) (tgt := 22) dX8_together_18 (by decide) ?_
    refine J_iload_n (pc := 22) dX8_together_22 rfl rfl ?_
    refine J_callS0 (pc := 23) (M := mX8_together) (as := [.int s]) dX8_together_23 fw_X8_isSet fl_X8_134 fs_X8_isSet rfl (c_X8_isSet hs (d := d - 1) (Nat.le_trans (by decide) hdm) (w := w) s (kc := 0) (ks := 0)) hdp (st := [.int (nI 1), .ref 19]) (Nat.le_of_ble_eq_true rfl) rfl (kr_P fun v2 hv2 => ?_) kx_I
    rcases hv2 with ⟨rfl, hk2_0⟩ | ⟨q2, rfl, hk2_0, rfl⟩
    · refine J_if_neN (pc := 26) (tgt := 33) dX8_together_26 (by decide) (by decide) (fun h => absurd h (by decide)) (fun _ => ?_)
      refine J_iconst (pc := 29) (v := nI 1) dX8_together_29 (by decide) ?_
      refine J_goto (pc := 30) (tgt := 34) dX8_together_30 (by decide) ?_
      refine J_callV0 (pc := 34) (M := mX8_together) (as := [.int (nI 1), .int (nI 1)]) dX8_together_34 fw_X8_isThrown fl_X8_35 fm_X8_isThrown fe_X8_isThrown h19 (by decide) rfl rfl rfl (c_X8_isThrown hs (d := d - 1) (Nat.le_trans (by decide) hdm) (w := w) (n := n) (mv := mv) (rw := rw) (nx := nx) (b := b) (bt := bt) (kn := kn) (en := en) (dn := dn) (rf := rf) (kk := kk) (th := th) ⟨h19, h20, h21, h22, hbb, hbl, hb3⟩ hn1 hn2 gm gr gx 1 1 (by first | assumption | omega) (by first | assumption | omega) (kc := 0) (ks := 0)) hdp (st := []) (Nat.le_of_ble_eq_true rfl) rfl (kr_I fun v3 w3 hv3 hw3 => ?_) kx_I
      obtain ⟨hR3, hFc3⟩ := hw3
      obtain ⟨h19_3, h20_3, h21_3, h22_3, hbb_3, hbl_3, hb3_3⟩ := hR3
      have hF3 := hF.tr hFc3
      subst hv3
      show J X mX8_together d kc ks 37 [some (.ref 19), some (.int s), some (.int a), some (.int c), none, none] [.int (nI 1)] w3 _
      refine J_if_eqN (pc := 37) (tgt := 42) dX8_together_37 (by decide) (by decide) (fun h => absurd h (by decide)) (fun _ => ?_)
      refine J_iconst (pc := 40) (v := nI 0) dX8_together_40 (by decide) ?_
      exact J_iret (pc := 41) dX8_together_41 rfl ⟨trivial, ⟨rw, nI (tW 1 1), ⟨h19_3, h20_3, h21_3, h22_3, hbb_3, hbl_3, hb3_3⟩, hF3, gr⟩⟩
    · refine J_if_neN (pc := 26) (tgt := 33) dX8_together_26 (by decide) (by decide) (fun _ => ?_) (fun h => absurd h (by decide))
      refine J_iconst (pc := 33) (v := nI 0) dX8_together_33 (by decide) ?_
      refine J_callV0 (pc := 34) (M := mX8_together) (as := [.int (nI 1), .int (nI 0)]) dX8_together_34 fw_X8_isThrown fl_X8_35 fm_X8_isThrown fe_X8_isThrown h19 (by decide) rfl rfl rfl (c_X8_isThrown hs (d := d - 1) (Nat.le_trans (by decide) hdm) (w := w) (n := n) (mv := mv) (rw := rw) (nx := nx) (b := b) (bt := bt) (kn := kn) (en := en) (dn := dn) (rf := rf) (kk := kk) (th := th) ⟨h19, h20, h21, h22, hbb, hbl, hb3⟩ hn1 hn2 gm gr gx 1 0 (by first | assumption | omega) (by first | assumption | omega) (kc := 0) (ks := 0)) hdp (st := []) (Nat.le_of_ble_eq_true rfl) rfl (kr_I fun v4 w4 hv4 hw4 => ?_) kx_I
      obtain ⟨hR4, hFc4⟩ := hw4
      obtain ⟨h19_4, h20_4, h21_4, h22_4, hbb_4, hbl_4, hb3_4⟩ := hR4
      have hF4 := hF.tr hFc4
      subst hv4
      show J X mX8_together d kc ks 37 [some (.ref 19), some (.int (nI q2)), some (.int a), some (.int c), none, none] [.int (nI 1)] w4 _
      refine J_if_eqN (pc := 37) (tgt := 42) dX8_together_37 (by decide) (by decide) (fun h => absurd h (by decide)) (fun _ => ?_)
      refine J_iconst (pc := 40) (v := nI 0) dX8_together_40 (by decide) ?_
      exact J_iret (pc := 41) dX8_together_41 rfl ⟨trivial, ⟨rw, nI (tW 1 0), ⟨h19_4, h20_4, h21_4, h22_4, hbb_4, hbl_4, hb3_4⟩, hF4, gr⟩⟩
  · refine J_if_eqN (pc := 6) (tgt := 17) dX8_together_6 (by decide) (by decide) (fun h => absurd h (by decide)) (fun _ => ?_)
    refine J_aload_n (pc := 9) dX8_together_9 rfl rfl rfl ?_
    refine J_iload_n (pc := 10) dX8_together_10 rfl rfl ?_
    refine J_callV0 (pc := 11) (M := mX8_together) (as := [.int c]) dX8_together_11 fw_X8_isPoint fl_X8_118 fm_X8_isPoint fe_X8_isPoint h19 (by decide) rfl rfl rfl (c_X8_isPoint hs (d := d - 1) (Nat.le_trans (by decide) hdm) (w := w) (n := n) (mv := mv) (rw := rw) (nx := nx) (b := b) (bt := bt) (kn := kn) (en := en) (dn := dn) (rf := rf) (kk := kk) (th := th) ⟨h19, h20, h21, h22, hbb, hbl, hb3⟩ hn1 hn2 gm gr gx c (kc := 0) (ks := 0)) hdp (st := [.ref 19]) (Nat.le_of_ble_eq_true rfl) rfl (kr_P fun v5 hv5 => ?_) kx_I
    rcases hv5 with ⟨rfl, hk5_0⟩ | ⟨q5, rfl, hk5_0, rfl⟩
    · refine J_if_neN (pc := 14) (tgt := 21) dX8_together_14 (by decide) (by decide) (fun h => absurd h (by decide)) (fun _ => ?_)
      refine J_iconst (pc := 17) (v := nI 1) dX8_together_17 (by decide) ?_
      refine J_goto (pc := 18) (tgt := 22) dX8_together_18 (by decide) ?_
      refine J_iload_n (pc := 22) dX8_together_22 rfl rfl ?_
      refine J_callS0 (pc := 23) (M := mX8_together) (as := [.int s]) dX8_together_23 fw_X8_isSet fl_X8_134 fs_X8_isSet rfl (c_X8_isSet hs (d := d - 1) (Nat.le_trans (by decide) hdm) (w := w) s (kc := 0) (ks := 0)) hdp (st := [.int (nI 1), .ref 19]) (Nat.le_of_ble_eq_true rfl) rfl (kr_P fun v6 hv6 => ?_) kx_I
      rcases hv6 with ⟨rfl, hk6_0⟩ | ⟨q6, rfl, hk6_0, rfl⟩
      · refine J_if_neN (pc := 26) (tgt := 33) dX8_together_26 (by decide) (by decide) (fun h => absurd h (by decide)) (fun _ => ?_)
        refine J_iconst (pc := 29) (v := nI 1) dX8_together_29 (by decide) ?_
        refine J_goto (pc := 30) (tgt := 34) dX8_together_30 (by decide) ?_
        refine J_callV0 (pc := 34) (M := mX8_together) (as := [.int (nI 1), .int (nI 1)]) dX8_together_34 fw_X8_isThrown fl_X8_35 fm_X8_isThrown fe_X8_isThrown h19 (by decide) rfl rfl rfl (c_X8_isThrown hs (d := d - 1) (Nat.le_trans (by decide) hdm) (w := w) (n := n) (mv := mv) (rw := rw) (nx := nx) (b := b) (bt := bt) (kn := kn) (en := en) (dn := dn) (rf := rf) (kk := kk) (th := th) ⟨h19, h20, h21, h22, hbb, hbl, hb3⟩ hn1 hn2 gm gr gx 1 1 (by first | assumption | omega) (by first | assumption | omega) (kc := 0) (ks := 0)) hdp (st := []) (Nat.le_of_ble_eq_true rfl) rfl (kr_I fun v7 w7 hv7 hw7 => ?_) kx_I
        obtain ⟨hR7, hFc7⟩ := hw7
        obtain ⟨h19_7, h20_7, h21_7, h22_7, hbb_7, hbl_7, hb3_7⟩ := hR7
        have hF7 := hF.tr hFc7
        subst hv7
        show J X mX8_together d kc ks 37 [some (.ref 19), some (.int s), some (.int (nI q1)), some (.int c), none, none] [.int (nI 1)] w7 _
        refine J_if_eqN (pc := 37) (tgt := 42) dX8_together_37 (by decide) (by decide) (fun h => absurd h (by decide)) (fun _ => ?_)
        refine J_iconst (pc := 40) (v := nI 0) dX8_together_40 (by decide) ?_
        exact J_iret (pc := 41) dX8_together_41 rfl ⟨trivial, ⟨rw, nI (tW 1 1), ⟨h19_7, h20_7, h21_7, h22_7, hbb_7, hbl_7, hb3_7⟩, hF7, gr⟩⟩
      · refine J_if_neN (pc := 26) (tgt := 33) dX8_together_26 (by decide) (by decide) (fun _ => ?_) (fun h => absurd h (by decide))
        refine J_iconst (pc := 33) (v := nI 0) dX8_together_33 (by decide) ?_
        refine J_callV0 (pc := 34) (M := mX8_together) (as := [.int (nI 1), .int (nI 0)]) dX8_together_34 fw_X8_isThrown fl_X8_35 fm_X8_isThrown fe_X8_isThrown h19 (by decide) rfl rfl rfl (c_X8_isThrown hs (d := d - 1) (Nat.le_trans (by decide) hdm) (w := w) (n := n) (mv := mv) (rw := rw) (nx := nx) (b := b) (bt := bt) (kn := kn) (en := en) (dn := dn) (rf := rf) (kk := kk) (th := th) ⟨h19, h20, h21, h22, hbb, hbl, hb3⟩ hn1 hn2 gm gr gx 1 0 (by first | assumption | omega) (by first | assumption | omega) (kc := 0) (ks := 0)) hdp (st := []) (Nat.le_of_ble_eq_true rfl) rfl (kr_I fun v8 w8 hv8 hw8 => ?_) kx_I
        obtain ⟨hR8, hFc8⟩ := hw8
        obtain ⟨h19_8, h20_8, h21_8, h22_8, hbb_8, hbl_8, hb3_8⟩ := hR8
        have hF8 := hF.tr hFc8
        subst hv8
        show J X mX8_together d kc ks 37 [some (.ref 19), some (.int (nI q6)), some (.int (nI q1)), some (.int c), none, none] [.int (nI 1)] w8 _
        refine J_if_eqN (pc := 37) (tgt := 42) dX8_together_37 (by decide) (by decide) (fun h => absurd h (by decide)) (fun _ => ?_)
        refine J_iconst (pc := 40) (v := nI 0) dX8_together_40 (by decide) ?_
        exact J_iret (pc := 41) dX8_together_41 rfl ⟨trivial, ⟨rw, nI (tW 1 0), ⟨h19_8, h20_8, h21_8, h22_8, hbb_8, hbl_8, hb3_8⟩, hF8, gr⟩⟩
    · refine J_if_neN (pc := 14) (tgt := 21) dX8_together_14 (by decide) (by decide) (fun _ => ?_) (fun h => absurd h (by decide))
      refine J_iconst (pc := 21) (v := nI 0) dX8_together_21 (by decide) ?_
      refine J_iload_n (pc := 22) dX8_together_22 rfl rfl ?_
      refine J_callS0 (pc := 23) (M := mX8_together) (as := [.int s]) dX8_together_23 fw_X8_isSet fl_X8_134 fs_X8_isSet rfl (c_X8_isSet hs (d := d - 1) (Nat.le_trans (by decide) hdm) (w := w) s (kc := 0) (ks := 0)) hdp (st := [.int (nI 0), .ref 19]) (Nat.le_of_ble_eq_true rfl) rfl (kr_P fun v9 hv9 => ?_) kx_I
      rcases hv9 with ⟨rfl, hk9_0⟩ | ⟨q9, rfl, hk9_0, rfl⟩
      · refine J_if_neN (pc := 26) (tgt := 33) dX8_together_26 (by decide) (by decide) (fun h => absurd h (by decide)) (fun _ => ?_)
        refine J_iconst (pc := 29) (v := nI 1) dX8_together_29 (by decide) ?_
        refine J_goto (pc := 30) (tgt := 34) dX8_together_30 (by decide) ?_
        refine J_callV0 (pc := 34) (M := mX8_together) (as := [.int (nI 0), .int (nI 1)]) dX8_together_34 fw_X8_isThrown fl_X8_35 fm_X8_isThrown fe_X8_isThrown h19 (by decide) rfl rfl rfl (c_X8_isThrown hs (d := d - 1) (Nat.le_trans (by decide) hdm) (w := w) (n := n) (mv := mv) (rw := rw) (nx := nx) (b := b) (bt := bt) (kn := kn) (en := en) (dn := dn) (rf := rf) (kk := kk) (th := th) ⟨h19, h20, h21, h22, hbb, hbl, hb3⟩ hn1 hn2 gm gr gx 0 1 (by first | assumption | omega) (by first | assumption | omega) (kc := 0) (ks := 0)) hdp (st := []) (Nat.le_of_ble_eq_true rfl) rfl (kr_I fun v10 w10 hv10 hw10 => ?_) kx_I
        obtain ⟨hR10, hFc10⟩ := hw10
        obtain ⟨h19_10, h20_10, h21_10, h22_10, hbb_10, hbl_10, hb3_10⟩ := hR10
        have hF10 := hF.tr hFc10
        subst hv10
        show J X mX8_together d kc ks 37 [some (.ref 19), some (.int s), some (.int (nI q1)), some (.int (nI q5)), none, none] [.int (nI 1)] w10 _
        refine J_if_eqN (pc := 37) (tgt := 42) dX8_together_37 (by decide) (by decide) (fun h => absurd h (by decide)) (fun _ => ?_)
        refine J_iconst (pc := 40) (v := nI 0) dX8_together_40 (by decide) ?_
        exact J_iret (pc := 41) dX8_together_41 rfl ⟨trivial, ⟨rw, nI (tW 0 1), ⟨h19_10, h20_10, h21_10, h22_10, hbb_10, hbl_10, hb3_10⟩, hF10, gr⟩⟩
      · refine J_if_neN (pc := 26) (tgt := 33) dX8_together_26 (by decide) (by decide) (fun _ => ?_) (fun h => absurd h (by decide))
        refine J_iconst (pc := 33) (v := nI 0) dX8_together_33 (by decide) ?_
        refine J_callV0 (pc := 34) (M := mX8_together) (as := [.int (nI 0), .int (nI 0)]) dX8_together_34 fw_X8_isThrown fl_X8_35 fm_X8_isThrown fe_X8_isThrown h19 (by decide) rfl rfl rfl (c_X8_isThrown hs (d := d - 1) (Nat.le_trans (by decide) hdm) (w := w) (n := n) (mv := mv) (rw := rw) (nx := nx) (b := b) (bt := bt) (kn := kn) (en := en) (dn := dn) (rf := rf) (kk := kk) (th := th) ⟨h19, h20, h21, h22, hbb, hbl, hb3⟩ hn1 hn2 gm gr gx 0 0 (by first | assumption | omega) (by first | assumption | omega) (kc := 0) (ks := 0)) hdp (st := []) (Nat.le_of_ble_eq_true rfl) rfl (kr_I fun v11 w11 hv11 hw11 => ?_) kx_I
        obtain ⟨hR11, hFc11⟩ := hw11
        obtain ⟨h19_11, h20_11, h21_11, h22_11, hbb_11, hbl_11, hb3_11⟩ := hR11
        have hF11 := hF.tr hFc11
        subst hv11
        show J X mX8_together d kc ks 37 [some (.ref 19), some (.int (nI q9)), some (.int (nI q1)), some (.int (nI q5)), none, none] [.int (nI 0)] w11 _
        refine J_if_eqN (pc := 37) (tgt := 42) dX8_together_37 (by decide) (by decide) (fun _ => ?_) (fun h => absurd h (by decide))
        refine J_aload_n (pc := 42) dX8_together_42 rfl rfl rfl ?_
        refine J_iload_n (pc := 43) dX8_together_43 rfl rfl ?_
        refine J_iload_n (pc := 44) dX8_together_44 rfl rfl ?_
        refine J_iload_n (pc := 45) dX8_together_45 rfl rfl ?_
        refine J_callV0 (pc := 46) (M := mX8_together) (as := [.int (nI q9), .int (nI q1), .int (nI q5)]) dX8_together_46 fw_X8_part fl_X8_220 fm_X8_part fe_X8_part h19_11 (by decide) rfl rfl rfl (c_X8_part hs (d := d - 1) (Nat.le_trans (by decide) hdm) (w := w11) (n := n) (mv := mv) (rw := rw) (nx := nx) (b := b) (bt := bt) (kn := kn) (en := en) (dn := dn) (rf := rf) (kk := kk) (th := nI (tW 0 0)) ⟨h19_11, h20_11, h21_11, h22_11, hbb_11, hbl_11, hb3_11⟩ hn1 hn2 gm gr gx q9 q1 q5 (by first | assumption | omega) (by first | assumption | omega) (by first | assumption | omega) (by first | assumption | omega) (kc := 0) (ks := 0)) hdp (st := []) (Nat.le_of_ble_eq_true rfl) rfl (kr_V fun w12 hw12 => ?_) kx_V
        obtain ⟨rw12, hR12, hFc12, hgrw12⟩ := hw12
        obtain ⟨h19_12, h20_12, h21_12, h22_12, hbb_12, hbl_12, hb3_12⟩ := hR12
        have hF12 := hF11.tr hFc12
        refine J_iconst (pc := 49) (v := nI 0) dX8_together_49 (by decide) ?_
        refine J_istore (pc := 50) dX8_together_50 (by decide) rfl ?_
        show J X mX8_together d kc ks 52 [some (.ref 19), some (.int (nI q9)), some (.int (nI q1)), some (.int (nI q5)), some (.int (nI 0)), none] [] w12 _
        refine J_iconst (pc := 52) (v := nI 0) dX8_together_52 (by decide) ?_
        refine J_istore (pc := 53) dX8_together_53 (by decide) rfl ?_
        show J X mX8_together d kc ks 55 [some (.ref 19), some (.int (nI q9)), some (.int (nI q1)), some (.int (nI q5)), some (.int (nI 0)), some (.int (nI 0))] [] w12 _
        have lp55_13 : ∀ (fuel : Nat) (z4 : Int32) (c5 : Nat), (c5 ≤ n) → (n - c5 < fuel) → J X mX8_together d kc ks 55 [some (.ref 19), some (.int (nI q9)), some (.int (nI q1)), some (.int (nI q5)), some (.int z4), some (.int (nI c5))] [] w12 (pI (fun _ => True) (fun w' => ∃ (rw' : Nat → Nat), ∃ (th' : Int32), RM n mv rw' nx b bt kn en dn rf kk th' w' ∧ FR b b w w' ∧ (∀ i, rw' i < 7))) := by
          intro fuellp55_13
          induction fuellp55_13 with
          | zero => intros; omega
          | succ fuellp55_13 ihlp55_13 =>
            intro z4 c5 hv55_0 hf14
            refine J_iload (pc := 55) dX8_together_55 rfl ?_
            refine J_aload_n (pc := 57) dX8_together_57 rfl rfl rfl ?_
            refine J_get (pc := 58) (k := 0) dX8_together_58 kC9 (by decide) ff_X8_7 h19_12 rfl ?_
            refine J_icmp_geN (pc := 61) (tgt := 95) dX8_together_61 (by decide) (by omega) (by omega) (fun ht15 => ?_) (fun hf16 => ?_)
            · refine J_iload (pc := 95) dX8_together_95 rfl ?_
              exact J_iret (pc := 97) dX8_together_97 rfl ⟨trivial, ⟨rw12, nI (tW 0 0), ⟨h19_12, h20_12, h21_12, h22_12, hbb_12, hbl_12, hb3_12⟩, hF12, hgrw12⟩⟩
            · refine J_aload_n (pc := 64) dX8_together_64 rfl rfl rfl ?_
              refine J_get (pc := 65) (k := 2) dX8_together_65 kC9 (by decide) ff_X8_17 h19_12 rfl ?_
              refine J_iload (pc := 68) dX8_together_68 rfl ?_
              refine J_ialdF (pc := 70) dX8_together_70 h21_12 (by omega) (by decide) ?_
              have hq17 := hgrw12 c5
              refine J_aload_n (pc := 71) dX8_together_71 rfl rfl rfl ?_
              refine J_get (pc := 72) (k := 2) dX8_together_72 kC9 (by decide) ff_X8_17 h19_12 rfl ?_
              refine J_iload_n (pc := 75) dX8_together_75 rfl rfl ?_
              refine J_ialdF (pc := 76) dX8_together_76 h21_12 (by omega) (by decide) ?_
              have hq18 := hgrw12 q1
              refine J_icmp_neN (pc := 77) (tgt := 89) dX8_together_77 (by decide) (by omega) (by omega) (fun ht19 => ?_) (fun hf20 => ?_)
              · refine J_iincN (pc := 89) (b := 1) dX8_together_89 rfl (by decide) (by decide) rfl ?_
                show J X mX8_together d kc ks 92 [some (.ref 19), some (.int (nI q9)), some (.int (nI q1)), some (.int (nI q5)), some (.int z4), some (.int (nI (c5 + 1)))] [] w12 _
                refine J_goto (pc := 92) (tgt := 55) dX8_together_92 (by decide) ?_
                exact J_sub (L' := [some (.ref 19), some (.int (nI q9)), some (.int (nI q1)), some (.int (nI q5)), some (.int z4), some (.int (nI (c5 + 1)))]) ⟨rfl, ⟨rfl, ⟨rfl, ⟨rfl, ⟨rfl, ⟨rfl, trivial⟩⟩⟩⟩⟩⟩ (ihlp55_13 z4 (c5 + 1) (by first | assumption | omega) (by omega))
              · refine J_iload (pc := 80) dX8_together_80 rfl ?_
                refine J_iconst (pc := 82) (v := nI 1) dX8_together_82 (by decide) ?_
                refine J_iload (pc := 83) dX8_together_83 rfl ?_
                refine J_ishl (pc := 85) dX8_together_85 (J_absI fun x21 => ?_)
                refine J_ior (pc := 86) dX8_together_86 (J_absI fun x22 => ?_)
                refine J_istore (pc := 87) dX8_together_87 (by decide) rfl ?_
                show J X mX8_together d kc ks 89 [some (.ref 19), some (.int (nI q9)), some (.int (nI q1)), some (.int (nI q5)), some (.int x22), some (.int (nI c5))] [] w12 _
                refine J_iincN (pc := 89) (b := 1) dX8_together_89 rfl (by decide) (by decide) rfl ?_
                show J X mX8_together d kc ks 92 [some (.ref 19), some (.int (nI q9)), some (.int (nI q1)), some (.int (nI q5)), some (.int x22), some (.int (nI (c5 + 1)))] [] w12 _
                refine J_goto (pc := 92) (tgt := 55) dX8_together_92 (by decide) ?_
                exact J_sub (L' := [some (.ref 19), some (.int (nI q9)), some (.int (nI q1)), some (.int (nI q5)), some (.int x22), some (.int (nI (c5 + 1)))]) ⟨rfl, ⟨rfl, ⟨rfl, ⟨rfl, ⟨rfl, ⟨rfl, trivial⟩⟩⟩⟩⟩⟩ (ihlp55_13 x22 (c5 + 1) (by first | assumption | omega) (by omega))
        exact J_sub (L' := [some (.ref 19), some (.int (nI q9)), some (.int (nI q1)), some (.int (nI q5)), some (.int (nI 0)), some (.int (nI 0))]) ⟨rfl, ⟨rfl, ⟨rfl, ⟨rfl, ⟨rfl, ⟨rfl, trivial⟩⟩⟩⟩⟩⟩ (lp55_13 _ (nI 0) 0 (by first | assumption | omega) (Nat.lt_succ_self _))
set_option maxRecDepth 100000 in
set_option maxHeartbeats 40000000 in
theorem c_X8_blocks {X : jX} (hs : X.1.stackTraces = false) {d : Nat} (hd : 2 ≤ d) {n : Nat} {mv rw nx : Nat → Nat} {b : Nat} {bt : List Int32} {kn en dn rf kk th : Int32} {w : List jC} (hR : RM n mv rw nx b bt kn en dn rf kk th w) (hn1 : 2 ≤ n) (hn2 : n ≤ 7) (gm : ∀ i, mv i < 7) (gr : ∀ i, rw i < 7) (gx : ∀ i, nx i < 7) (s : Int32) (a : Int32) (c : Int32) (hy0 : PM n mv) {kc ks : Nat} : jMet X mX8_blocks d kc ks [.ref 19, .int s, .int a, .int c] w (pI (fun _ => True) (fun w' => ∃ (rw' : Nat → Nat), ∃ (th' : Int32), RM n mv rw' nx b bt kn en dn rf kk th' w' ∧ FR b b w w' ∧ (∀ i, rw' i < 7))) := by
  refine jMet_of hs (by decide +kernel) (Nat.le_of_ble_eq_true rfl) (L := [some (.ref 19), some (.int s), some (.int a), some (.int c), none, none]) rfl ?_
  have hdm : 1 ≤ d - 1 := by omega
  have hdp : d - 1 + 1 ≤ d := by omega
  have hfc := fc_7 hn2
  have hfp := fc_pos n
  obtain ⟨h19, h20, h21, h22, hbb, hbl, hb3⟩ := hR
  have hF : FR b b w w := FR.rf
  refine J_aload_n (pc := 0) dX8_blocks_0 rfl rfl rfl ?_
  refine J_aload_n (pc := 1) dX8_blocks_1 rfl rfl rfl ?_
  refine J_iload_n (pc := 2) dX8_blocks_2 rfl rfl ?_
  refine J_callV0 (pc := 3) (M := mX8_blocks) (as := [.int a]) dX8_blocks_3 fw_X8_isPoint fl_X8_118 fm_X8_isPoint fe_X8_isPoint h19 (by decide) rfl rfl rfl (c_X8_isPoint hs (d := d - 1) (Nat.le_trans (by decide) hdm) (w := w) (n := n) (mv := mv) (rw := rw) (nx := nx) (b := b) (bt := bt) (kn := kn) (en := en) (dn := dn) (rf := rf) (kk := kk) (th := th) ⟨h19, h20, h21, h22, hbb, hbl, hb3⟩ hn1 hn2 gm gr gx a (kc := 0) (ks := 0)) hdp (st := [.ref 19]) (Nat.le_of_ble_eq_true rfl) rfl (kr_P fun v1 hv1 => ?_) kx_I
  rcases hv1 with ⟨rfl, hk1_0⟩ | ⟨q1, rfl, hk1_0, rfl⟩
  · refine J_if_eqN (pc := 6) (tgt := 17) dX8_blocks_6 (by decide) (by decide) (fun _ => ?_) (fun h => absurd h (by decide))
    refine J_iconst (pc := 17) (v := nI 1) dX8_blocks_17 (by decide) ?_
    refine J_goto (pc := 18) (tgt := 22) dX8_blocks_18 (by decide) ?_
    refine J_iload_n (pc := 22) dX8_blocks_22 rfl rfl ?_
    refine J_callS0 (pc := 23) (M := mX8_blocks) (as := [.int s]) dX8_blocks_23 fw_X8_isSet fl_X8_134 fs_X8_isSet rfl (c_X8_isSet hs (d := d - 1) (Nat.le_trans (by decide) hdm) (w := w) s (kc := 0) (ks := 0)) hdp (st := [.int (nI 1), .ref 19]) (Nat.le_of_ble_eq_true rfl) rfl (kr_P fun v2 hv2 => ?_) kx_I
    rcases hv2 with ⟨rfl, hk2_0⟩ | ⟨q2, rfl, hk2_0, rfl⟩
    · refine J_if_neN (pc := 26) (tgt := 33) dX8_blocks_26 (by decide) (by decide) (fun h => absurd h (by decide)) (fun _ => ?_)
      refine J_iconst (pc := 29) (v := nI 1) dX8_blocks_29 (by decide) ?_
      refine J_goto (pc := 30) (tgt := 34) dX8_blocks_30 (by decide) ?_
      refine J_callV0 (pc := 34) (M := mX8_blocks) (as := [.int (nI 1), .int (nI 1)]) dX8_blocks_34 fw_X8_isThrown fl_X8_35 fm_X8_isThrown fe_X8_isThrown h19 (by decide) rfl rfl rfl (c_X8_isThrown hs (d := d - 1) (Nat.le_trans (by decide) hdm) (w := w) (n := n) (mv := mv) (rw := rw) (nx := nx) (b := b) (bt := bt) (kn := kn) (en := en) (dn := dn) (rf := rf) (kk := kk) (th := th) ⟨h19, h20, h21, h22, hbb, hbl, hb3⟩ hn1 hn2 gm gr gx 1 1 (by first | assumption | omega) (by first | assumption | omega) (kc := 0) (ks := 0)) hdp (st := []) (Nat.le_of_ble_eq_true rfl) rfl (kr_I fun v3 w3 hv3 hw3 => ?_) kx_I
      obtain ⟨hR3, hFc3⟩ := hw3
      obtain ⟨h19_3, h20_3, h21_3, h22_3, hbb_3, hbl_3, hb3_3⟩ := hR3
      have hF3 := hF.tr hFc3
      subst hv3
      show J X mX8_blocks d kc ks 37 [some (.ref 19), some (.int s), some (.int a), some (.int c), none, none] [.int (nI 1)] w3 _
      refine J_if_eqN (pc := 37) (tgt := 42) dX8_blocks_37 (by decide) (by decide) (fun h => absurd h (by decide)) (fun _ => ?_)
      refine J_iconst (pc := 40) (v := nI 0) dX8_blocks_40 (by decide) ?_
      exact J_iret (pc := 41) dX8_blocks_41 rfl ⟨trivial, ⟨rw, nI (tW 1 1), ⟨h19_3, h20_3, h21_3, h22_3, hbb_3, hbl_3, hb3_3⟩, hF3, gr⟩⟩
    · refine J_if_neN (pc := 26) (tgt := 33) dX8_blocks_26 (by decide) (by decide) (fun _ => ?_) (fun h => absurd h (by decide))
      refine J_iconst (pc := 33) (v := nI 0) dX8_blocks_33 (by decide) ?_
      refine J_callV0 (pc := 34) (M := mX8_blocks) (as := [.int (nI 1), .int (nI 0)]) dX8_blocks_34 fw_X8_isThrown fl_X8_35 fm_X8_isThrown fe_X8_isThrown h19 (by decide) rfl rfl rfl (c_X8_isThrown hs (d := d - 1) (Nat.le_trans (by decide) hdm) (w := w) (n := n) (mv := mv) (rw := rw) (nx := nx) (b := b) (bt := bt) (kn := kn) (en := en) (dn := dn) (rf := rf) (kk := kk) (th := th) ⟨h19, h20, h21, h22, hbb, hbl, hb3⟩ hn1 hn2 gm gr gx 1 0 (by first | assumption | omega) (by first | assumption | omega) (kc := 0) (ks := 0)) hdp (st := []) (Nat.le_of_ble_eq_true rfl) rfl (kr_I fun v4 w4 hv4 hw4 => ?_) kx_I
      obtain ⟨hR4, hFc4⟩ := hw4
      obtain ⟨h19_4, h20_4, h21_4, h22_4, hbb_4, hbl_4, hb3_4⟩ := hR4
      have hF4 := hF.tr hFc4
      subst hv4
      show J X mX8_blocks d kc ks 37 [some (.ref 19), some (.int (nI q2)), some (.int a), some (.int c), none, none] [.int (nI 1)] w4 _
      refine J_if_eqN (pc := 37) (tgt := 42) dX8_blocks_37 (by decide) (by decide) (fun h => absurd h (by decide)) (fun _ => ?_)
      refine J_iconst (pc := 40) (v := nI 0) dX8_blocks_40 (by decide) ?_
      exact J_iret (pc := 41) dX8_blocks_41 rfl ⟨trivial, ⟨rw, nI (tW 1 0), ⟨h19_4, h20_4, h21_4, h22_4, hbb_4, hbl_4, hb3_4⟩, hF4, gr⟩⟩
  · refine J_if_eqN (pc := 6) (tgt := 17) dX8_blocks_6 (by decide) (by decide) (fun h => absurd h (by decide)) (fun _ => ?_)
    refine J_aload_n (pc := 9) dX8_blocks_9 rfl rfl rfl ?_
    refine J_iload_n (pc := 10) dX8_blocks_10 rfl rfl ?_
    refine J_callV0 (pc := 11) (M := mX8_blocks) (as := [.int c]) dX8_blocks_11 fw_X8_isPoint fl_X8_118 fm_X8_isPoint fe_X8_isPoint h19 (by decide) rfl rfl rfl (c_X8_isPoint hs (d := d - 1) (Nat.le_trans (by decide) hdm) (w := w) (n := n) (mv := mv) (rw := rw) (nx := nx) (b := b) (bt := bt) (kn := kn) (en := en) (dn := dn) (rf := rf) (kk := kk) (th := th) ⟨h19, h20, h21, h22, hbb, hbl, hb3⟩ hn1 hn2 gm gr gx c (kc := 0) (ks := 0)) hdp (st := [.ref 19]) (Nat.le_of_ble_eq_true rfl) rfl (kr_P fun v5 hv5 => ?_) kx_I
    rcases hv5 with ⟨rfl, hk5_0⟩ | ⟨q5, rfl, hk5_0, rfl⟩
    · refine J_if_neN (pc := 14) (tgt := 21) dX8_blocks_14 (by decide) (by decide) (fun h => absurd h (by decide)) (fun _ => ?_)
      refine J_iconst (pc := 17) (v := nI 1) dX8_blocks_17 (by decide) ?_
      refine J_goto (pc := 18) (tgt := 22) dX8_blocks_18 (by decide) ?_
      refine J_iload_n (pc := 22) dX8_blocks_22 rfl rfl ?_
      refine J_callS0 (pc := 23) (M := mX8_blocks) (as := [.int s]) dX8_blocks_23 fw_X8_isSet fl_X8_134 fs_X8_isSet rfl (c_X8_isSet hs (d := d - 1) (Nat.le_trans (by decide) hdm) (w := w) s (kc := 0) (ks := 0)) hdp (st := [.int (nI 1), .ref 19]) (Nat.le_of_ble_eq_true rfl) rfl (kr_P fun v6 hv6 => ?_) kx_I
      rcases hv6 with ⟨rfl, hk6_0⟩ | ⟨q6, rfl, hk6_0, rfl⟩
      · refine J_if_neN (pc := 26) (tgt := 33) dX8_blocks_26 (by decide) (by decide) (fun h => absurd h (by decide)) (fun _ => ?_)
        refine J_iconst (pc := 29) (v := nI 1) dX8_blocks_29 (by decide) ?_
        refine J_goto (pc := 30) (tgt := 34) dX8_blocks_30 (by decide) ?_
        refine J_callV0 (pc := 34) (M := mX8_blocks) (as := [.int (nI 1), .int (nI 1)]) dX8_blocks_34 fw_X8_isThrown fl_X8_35 fm_X8_isThrown fe_X8_isThrown h19 (by decide) rfl rfl rfl (c_X8_isThrown hs (d := d - 1) (Nat.le_trans (by decide) hdm) (w := w) (n := n) (mv := mv) (rw := rw) (nx := nx) (b := b) (bt := bt) (kn := kn) (en := en) (dn := dn) (rf := rf) (kk := kk) (th := th) ⟨h19, h20, h21, h22, hbb, hbl, hb3⟩ hn1 hn2 gm gr gx 1 1 (by first | assumption | omega) (by first | assumption | omega) (kc := 0) (ks := 0)) hdp (st := []) (Nat.le_of_ble_eq_true rfl) rfl (kr_I fun v7 w7 hv7 hw7 => ?_) kx_I
        obtain ⟨hR7, hFc7⟩ := hw7
        obtain ⟨h19_7, h20_7, h21_7, h22_7, hbb_7, hbl_7, hb3_7⟩ := hR7
        have hF7 := hF.tr hFc7
        subst hv7
        show J X mX8_blocks d kc ks 37 [some (.ref 19), some (.int s), some (.int (nI q1)), some (.int c), none, none] [.int (nI 1)] w7 _
        refine J_if_eqN (pc := 37) (tgt := 42) dX8_blocks_37 (by decide) (by decide) (fun h => absurd h (by decide)) (fun _ => ?_)
        refine J_iconst (pc := 40) (v := nI 0) dX8_blocks_40 (by decide) ?_
        exact J_iret (pc := 41) dX8_blocks_41 rfl ⟨trivial, ⟨rw, nI (tW 1 1), ⟨h19_7, h20_7, h21_7, h22_7, hbb_7, hbl_7, hb3_7⟩, hF7, gr⟩⟩
      · refine J_if_neN (pc := 26) (tgt := 33) dX8_blocks_26 (by decide) (by decide) (fun _ => ?_) (fun h => absurd h (by decide))
        refine J_iconst (pc := 33) (v := nI 0) dX8_blocks_33 (by decide) ?_
        refine J_callV0 (pc := 34) (M := mX8_blocks) (as := [.int (nI 1), .int (nI 0)]) dX8_blocks_34 fw_X8_isThrown fl_X8_35 fm_X8_isThrown fe_X8_isThrown h19 (by decide) rfl rfl rfl (c_X8_isThrown hs (d := d - 1) (Nat.le_trans (by decide) hdm) (w := w) (n := n) (mv := mv) (rw := rw) (nx := nx) (b := b) (bt := bt) (kn := kn) (en := en) (dn := dn) (rf := rf) (kk := kk) (th := th) ⟨h19, h20, h21, h22, hbb, hbl, hb3⟩ hn1 hn2 gm gr gx 1 0 (by first | assumption | omega) (by first | assumption | omega) (kc := 0) (ks := 0)) hdp (st := []) (Nat.le_of_ble_eq_true rfl) rfl (kr_I fun v8 w8 hv8 hw8 => ?_) kx_I
        obtain ⟨hR8, hFc8⟩ := hw8
        obtain ⟨h19_8, h20_8, h21_8, h22_8, hbb_8, hbl_8, hb3_8⟩ := hR8
        have hF8 := hF.tr hFc8
        subst hv8
        show J X mX8_blocks d kc ks 37 [some (.ref 19), some (.int (nI q6)), some (.int (nI q1)), some (.int c), none, none] [.int (nI 1)] w8 _
        refine J_if_eqN (pc := 37) (tgt := 42) dX8_blocks_37 (by decide) (by decide) (fun h => absurd h (by decide)) (fun _ => ?_)
        refine J_iconst (pc := 40) (v := nI 0) dX8_blocks_40 (by decide) ?_
        exact J_iret (pc := 41) dX8_blocks_41 rfl ⟨trivial, ⟨rw, nI (tW 1 0), ⟨h19_8, h20_8, h21_8, h22_8, hbb_8, hbl_8, hb3_8⟩, hF8, gr⟩⟩
    · refine J_if_neN (pc := 14) (tgt := 21) dX8_blocks_14 (by decide) (by decide) (fun _ => ?_) (fun h => absurd h (by decide))
      refine J_iconst (pc := 21) (v := nI 0) dX8_blocks_21 (by decide) ?_
      refine J_iload_n (pc := 22) dX8_blocks_22 rfl rfl ?_
      refine J_callS0 (pc := 23) (M := mX8_blocks) (as := [.int s]) dX8_blocks_23 fw_X8_isSet fl_X8_134 fs_X8_isSet rfl (c_X8_isSet hs (d := d - 1) (Nat.le_trans (by decide) hdm) (w := w) s (kc := 0) (ks := 0)) hdp (st := [.int (nI 0), .ref 19]) (Nat.le_of_ble_eq_true rfl) rfl (kr_P fun v9 hv9 => ?_) kx_I
      rcases hv9 with ⟨rfl, hk9_0⟩ | ⟨q9, rfl, hk9_0, rfl⟩
      · refine J_if_neN (pc := 26) (tgt := 33) dX8_blocks_26 (by decide) (by decide) (fun h => absurd h (by decide)) (fun _ => ?_)
        refine J_iconst (pc := 29) (v := nI 1) dX8_blocks_29 (by decide) ?_
        refine J_goto (pc := 30) (tgt := 34) dX8_blocks_30 (by decide) ?_
        refine J_callV0 (pc := 34) (M := mX8_blocks) (as := [.int (nI 0), .int (nI 1)]) dX8_blocks_34 fw_X8_isThrown fl_X8_35 fm_X8_isThrown fe_X8_isThrown h19 (by decide) rfl rfl rfl (c_X8_isThrown hs (d := d - 1) (Nat.le_trans (by decide) hdm) (w := w) (n := n) (mv := mv) (rw := rw) (nx := nx) (b := b) (bt := bt) (kn := kn) (en := en) (dn := dn) (rf := rf) (kk := kk) (th := th) ⟨h19, h20, h21, h22, hbb, hbl, hb3⟩ hn1 hn2 gm gr gx 0 1 (by first | assumption | omega) (by first | assumption | omega) (kc := 0) (ks := 0)) hdp (st := []) (Nat.le_of_ble_eq_true rfl) rfl (kr_I fun v10 w10 hv10 hw10 => ?_) kx_I
        obtain ⟨hR10, hFc10⟩ := hw10
        obtain ⟨h19_10, h20_10, h21_10, h22_10, hbb_10, hbl_10, hb3_10⟩ := hR10
        have hF10 := hF.tr hFc10
        subst hv10
        show J X mX8_blocks d kc ks 37 [some (.ref 19), some (.int s), some (.int (nI q1)), some (.int (nI q5)), none, none] [.int (nI 1)] w10 _
        refine J_if_eqN (pc := 37) (tgt := 42) dX8_blocks_37 (by decide) (by decide) (fun h => absurd h (by decide)) (fun _ => ?_)
        refine J_iconst (pc := 40) (v := nI 0) dX8_blocks_40 (by decide) ?_
        exact J_iret (pc := 41) dX8_blocks_41 rfl ⟨trivial, ⟨rw, nI (tW 0 1), ⟨h19_10, h20_10, h21_10, h22_10, hbb_10, hbl_10, hb3_10⟩, hF10, gr⟩⟩
      · refine J_if_neN (pc := 26) (tgt := 33) dX8_blocks_26 (by decide) (by decide) (fun _ => ?_) (fun h => absurd h (by decide))
        refine J_iconst (pc := 33) (v := nI 0) dX8_blocks_33 (by decide) ?_
        refine J_callV0 (pc := 34) (M := mX8_blocks) (as := [.int (nI 0), .int (nI 0)]) dX8_blocks_34 fw_X8_isThrown fl_X8_35 fm_X8_isThrown fe_X8_isThrown h19 (by decide) rfl rfl rfl (c_X8_isThrown hs (d := d - 1) (Nat.le_trans (by decide) hdm) (w := w) (n := n) (mv := mv) (rw := rw) (nx := nx) (b := b) (bt := bt) (kn := kn) (en := en) (dn := dn) (rf := rf) (kk := kk) (th := th) ⟨h19, h20, h21, h22, hbb, hbl, hb3⟩ hn1 hn2 gm gr gx 0 0 (by first | assumption | omega) (by first | assumption | omega) (kc := 0) (ks := 0)) hdp (st := []) (Nat.le_of_ble_eq_true rfl) rfl (kr_I fun v11 w11 hv11 hw11 => ?_) kx_I
        obtain ⟨hR11, hFc11⟩ := hw11
        obtain ⟨h19_11, h20_11, h21_11, h22_11, hbb_11, hbl_11, hb3_11⟩ := hR11
        have hF11 := hF.tr hFc11
        subst hv11
        show J X mX8_blocks d kc ks 37 [some (.ref 19), some (.int (nI q9)), some (.int (nI q1)), some (.int (nI q5)), none, none] [.int (nI 0)] w11 _
        refine J_if_eqN (pc := 37) (tgt := 42) dX8_blocks_37 (by decide) (by decide) (fun _ => ?_) (fun h => absurd h (by decide))
        refine J_aload_n (pc := 42) dX8_blocks_42 rfl rfl rfl ?_
        refine J_iload_n (pc := 43) dX8_blocks_43 rfl rfl ?_
        refine J_iload_n (pc := 44) dX8_blocks_44 rfl rfl ?_
        refine J_iload_n (pc := 45) dX8_blocks_45 rfl rfl ?_
        refine J_callV0 (pc := 46) (M := mX8_blocks) (as := [.int (nI q9), .int (nI q1), .int (nI q5)]) dX8_blocks_46 fw_X8_part fl_X8_220 fm_X8_part fe_X8_part h19_11 (by decide) rfl rfl rfl (c_X8_part hs (d := d - 1) (Nat.le_trans (by decide) hdm) (w := w11) (n := n) (mv := mv) (rw := rw) (nx := nx) (b := b) (bt := bt) (kn := kn) (en := en) (dn := dn) (rf := rf) (kk := kk) (th := nI (tW 0 0)) ⟨h19_11, h20_11, h21_11, h22_11, hbb_11, hbl_11, hb3_11⟩ hn1 hn2 gm gr gx q9 q1 q5 (by first | assumption | omega) (by first | assumption | omega) (by first | assumption | omega) (by first | assumption | omega) (kc := 0) (ks := 0)) hdp (st := []) (Nat.le_of_ble_eq_true rfl) rfl (kr_V fun w12 hw12 => ?_) kx_V
        obtain ⟨rw12, hR12, hFc12, hgrw12⟩ := hw12
        obtain ⟨h19_12, h20_12, h21_12, h22_12, hbb_12, hbl_12, hb3_12⟩ := hR12
        have hF12 := hF11.tr hFc12
        refine J_iconst (pc := 49) (v := nI 0) dX8_blocks_49 (by decide) ?_
        refine J_istore (pc := 50) dX8_blocks_50 (by decide) rfl ?_
        show J X mX8_blocks d kc ks 52 [some (.ref 19), some (.int (nI q9)), some (.int (nI q1)), some (.int (nI q5)), some (.int (nI 0)), none] [] w12 _
        refine J_iconst (pc := 52) (v := nI 0) dX8_blocks_52 (by decide) ?_
        refine J_istore (pc := 53) dX8_blocks_53 (by decide) rfl ?_
        show J X mX8_blocks d kc ks 55 [some (.ref 19), some (.int (nI q9)), some (.int (nI q1)), some (.int (nI q5)), some (.int (nI 0)), some (.int (nI 0))] [] w12 _
        have lp55_13 : ∀ (fuel : Nat) (z4 : Int32) (c5 : Nat), (c5 ≤ n) → (n - c5 < fuel) → J X mX8_blocks d kc ks 55 [some (.ref 19), some (.int (nI q9)), some (.int (nI q1)), some (.int (nI q5)), some (.int z4), some (.int (nI c5))] [] w12 (pI (fun _ => True) (fun w' => ∃ (rw' : Nat → Nat), ∃ (th' : Int32), RM n mv rw' nx b bt kn en dn rf kk th' w' ∧ FR b b w w' ∧ (∀ i, rw' i < 7))) := by
          intro fuellp55_13
          induction fuellp55_13 with
          | zero => intros; omega
          | succ fuellp55_13 ihlp55_13 =>
            intro z4 c5 hv55_0 hf14
            refine J_iload (pc := 55) dX8_blocks_55 rfl ?_
            refine J_aload_n (pc := 57) dX8_blocks_57 rfl rfl rfl ?_
            refine J_get (pc := 58) (k := 0) dX8_blocks_58 kC9 (by decide) ff_X8_7 h19_12 rfl ?_
            refine J_icmp_geN (pc := 61) (tgt := 84) dX8_blocks_61 (by decide) (by omega) (by omega) (fun ht15 => ?_) (fun hf16 => ?_)
            · refine J_iload (pc := 84) dX8_blocks_84 rfl ?_
              refine J_callS0 (pc := 86) (M := mX8_blocks) (as := [.int z4]) dX8_blocks_86 fw_J6_bitCount_0f7a4 fl_X8_96 fs_J6_bitCount_0f7a4 rfl (c_J6_bitCount_0f7a4 hs (d := d - 1) (Nat.le_trans (by decide) hdm) (w := w12) z4 (kc := 0) (ks := 0)) hdp (st := []) (Nat.le_of_ble_eq_true rfl) rfl (kr_P fun v17 hv17 => ?_) kx_I
              obtain ⟨k17, rfl, hk17⟩ := hv17
              exact J_iret (pc := 89) dX8_blocks_89 rfl ⟨trivial, ⟨rw12, nI (tW 0 0), ⟨h19_12, h20_12, h21_12, h22_12, hbb_12, hbl_12, hb3_12⟩, hF12, hgrw12⟩⟩
            · refine J_iload (pc := 64) dX8_blocks_64 rfl ?_
              refine J_iconst (pc := 66) (v := nI 1) dX8_blocks_66 (by decide) ?_
              refine J_aload_n (pc := 67) dX8_blocks_67 rfl rfl rfl ?_
              refine J_get (pc := 68) (k := 2) dX8_blocks_68 kC9 (by decide) ff_X8_17 h19_12 rfl ?_
              refine J_iload (pc := 71) dX8_blocks_71 rfl ?_
              refine J_ialdF (pc := 73) dX8_blocks_73 h21_12 (by omega) (by decide) ?_
              have hq18 := hgrw12 c5
              refine J_ishl (pc := 74) dX8_blocks_74 (J_absI fun x19 => ?_)
              refine J_ior (pc := 75) dX8_blocks_75 (J_absI fun x20 => ?_)
              refine J_istore (pc := 76) dX8_blocks_76 (by decide) rfl ?_
              show J X mX8_blocks d kc ks 78 [some (.ref 19), some (.int (nI q9)), some (.int (nI q1)), some (.int (nI q5)), some (.int x20), some (.int (nI c5))] [] w12 _
              refine J_iincN (pc := 78) (b := 1) dX8_blocks_78 rfl (by decide) (by decide) rfl ?_
              show J X mX8_blocks d kc ks 81 [some (.ref 19), some (.int (nI q9)), some (.int (nI q1)), some (.int (nI q5)), some (.int x20), some (.int (nI (c5 + 1)))] [] w12 _
              refine J_goto (pc := 81) (tgt := 55) dX8_blocks_81 (by decide) ?_
              exact J_sub (L' := [some (.ref 19), some (.int (nI q9)), some (.int (nI q1)), some (.int (nI q5)), some (.int x20), some (.int (nI (c5 + 1)))]) ⟨rfl, ⟨rfl, ⟨rfl, ⟨rfl, ⟨rfl, ⟨rfl, trivial⟩⟩⟩⟩⟩⟩ (ihlp55_13 x20 (c5 + 1) (by first | assumption | omega) (by omega))
        exact J_sub (L' := [some (.ref 19), some (.int (nI q9)), some (.int (nI q1)), some (.int (nI q5)), some (.int (nI 0)), some (.int (nI 0))]) ⟨rfl, ⟨rfl, ⟨rfl, ⟨rfl, ⟨rfl, ⟨rfl, trivial⟩⟩⟩⟩⟩⟩ (lp55_13 _ (nI 0) 0 (by first | assumption | omega) (Nat.lt_succ_self _))
end
section
/-! contracts of the reference: rspec4 -/
set_option maxRecDepth 100000 in
set_option maxHeartbeats 40000000 in
theorem c_X8_isTwofold {X : jX} (hs : X.1.stackTraces = false) {d : Nat} (hd : 2 ≤ d) {n : Nat} {mv rw nx : Nat → Nat} {b : Nat} {bt : List Int32} {kn en dn rf kk th : Int32} {w : List jC} (hR : RM n mv rw nx b bt kn en dn rf kk th w) (hn1 : 2 ≤ n) (hn2 : n ≤ 7) (gm : ∀ i, mv i < 7) (gr : ∀ i, rw i < 7) (gx : ∀ i, nx i < 7) (s : Int32) {kc ks : Nat} (hkc : 1 ≤ kc) (hks : 49 ≤ ks) : jMet X mX8_isTwofold d kc ks [.ref 19, .int s] w (pI (fun v => ∃ k : Nat, v = nI k ∧ k < 2) (fun w' => ∃ (th' : Int32), RM n mv rw nx b bt kn en dn rf kk th' w' ∧ FR b b w w')) := by
  refine jMet_of hs (by decide +kernel) (Nat.le_of_ble_eq_true rfl) (L := [some (.ref 19), some (.int s), none, none, none, none, none, none]) rfl ?_
  have hdm : 1 ≤ d - 1 := by omega
  have hdp : d - 1 + 1 ≤ d := by omega
  have hfc := fc_7 hn2
  have hfp := fc_pos n
  obtain ⟨h19, h20, h21, h22, hbb, hbl, hb3⟩ := hR
  have hF : FR b b w w := FR.rf
  refine J_aload_n (pc := 0) dX8_isTwofold_0 rfl rfl rfl ?_
  refine J_iload_n (pc := 1) dX8_isTwofold_1 rfl rfl ?_
  refine J_callS0 (pc := 2) (M := mX8_isTwofold) (as := [.int s]) dX8_isTwofold_2 fw_X8_isSet fl_X8_134 fs_X8_isSet rfl (c_X8_isSet hs (d := d - 1) (Nat.le_trans (by decide) hdm) (w := w) s (kc := 0) (ks := 0)) hdp (st := [.ref 19]) (Nat.le_of_ble_eq_true rfl) rfl (kr_P fun v1 hv1 => ?_) kx_I
  rcases hv1 with ⟨rfl, hk1_0⟩ | ⟨q1, rfl, hk1_0, rfl⟩
  · refine J_if_neN (pc := 5) (tgt := 12) dX8_isTwofold_5 (by decide) (by decide) (fun h => absurd h (by decide)) (fun _ => ?_)
    refine J_iconst (pc := 8) (v := nI 1) dX8_isTwofold_8 (by decide) ?_
    refine J_goto (pc := 9) (tgt := 13) dX8_isTwofold_9 (by decide) ?_
    refine J_callV0 (pc := 13) (M := mX8_isTwofold) (as := [.int (nI 1)]) dX8_isTwofold_13 fw_X8_isThrown_ fl_X8_105 fm_X8_isThrown_ fe_X8_isThrown_ h19 (by decide) rfl rfl rfl (c_X8_isThrown_ hs (d := d - 1) (Nat.le_trans (by decide) hdm) (w := w) (n := n) (mv := mv) (rw := rw) (nx := nx) (b := b) (bt := bt) (kn := kn) (en := en) (dn := dn) (rf := rf) (kk := kk) (th := th) ⟨h19, h20, h21, h22, hbb, hbl, hb3⟩ hn1 hn2 gm gr gx 1 (by first | assumption | omega) (kc := 0) (ks := 0)) hdp (st := []) (Nat.le_of_ble_eq_true rfl) rfl (kr_I fun v2 w2 hv2 hw2 => ?_) kx_I
    obtain ⟨hR2, hFc2⟩ := hw2
    obtain ⟨h19_2, h20_2, h21_2, h22_2, hbb_2, hbl_2, hb3_2⟩ := hR2
    have hF2 := hF.tr hFc2
    subst hv2
    show J X mX8_isTwofold d kc ks 16 [some (.ref 19), some (.int s), none, none, none, none, none, none] [.int (nI 1)] w2 _
    refine J_if_eqN (pc := 16) (tgt := 21) dX8_isTwofold_16 (by decide) (by decide) (fun h => absurd h (by decide)) (fun _ => ?_)
    refine J_iconst (pc := 19) (v := nI 0) dX8_isTwofold_19 (by decide) ?_
    exact J_zret (pc := 20) dX8_isTwofold_20 rfl (nar_b (by first | decide | omega)) ⟨⟨0, rfl, by omega⟩, ⟨nI (tW 1 0), ⟨h19_2, h20_2, h21_2, h22_2, hbb_2, hbl_2, hb3_2⟩, hF2⟩⟩
  · refine J_if_neN (pc := 5) (tgt := 12) dX8_isTwofold_5 (by decide) (by decide) (fun _ => ?_) (fun h => absurd h (by decide))
    refine J_iconst (pc := 12) (v := nI 0) dX8_isTwofold_12 (by decide) ?_
    refine J_callV0 (pc := 13) (M := mX8_isTwofold) (as := [.int (nI 0)]) dX8_isTwofold_13 fw_X8_isThrown_ fl_X8_105 fm_X8_isThrown_ fe_X8_isThrown_ h19 (by decide) rfl rfl rfl (c_X8_isThrown_ hs (d := d - 1) (Nat.le_trans (by decide) hdm) (w := w) (n := n) (mv := mv) (rw := rw) (nx := nx) (b := b) (bt := bt) (kn := kn) (en := en) (dn := dn) (rf := rf) (kk := kk) (th := th) ⟨h19, h20, h21, h22, hbb, hbl, hb3⟩ hn1 hn2 gm gr gx 0 (by first | assumption | omega) (kc := 0) (ks := 0)) hdp (st := []) (Nat.le_of_ble_eq_true rfl) rfl (kr_I fun v3 w3 hv3 hw3 => ?_) kx_I
    obtain ⟨hR3, hFc3⟩ := hw3
    obtain ⟨h19_3, h20_3, h21_3, h22_3, hbb_3, hbl_3, hb3_3⟩ := hR3
    have hF3 := hF.tr hFc3
    subst hv3
    show J X mX8_isTwofold d kc ks 16 [some (.ref 19), some (.int (nI q1)), none, none, none, none, none, none] [.int (nI 0)] w3 _
    refine J_if_eqN (pc := 16) (tgt := 21) dX8_isTwofold_16 (by decide) (by decide) (fun _ => ?_) (fun h => absurd h (by decide))
    refine J_bipush (pc := 21) (v := nI 49) dX8_isTwofold_21 (by decide) ?_
    refine J_newW (pc := 23) (M := mX8_isTwofold) (N := 49) dX8_isTwofold_23 fa_int rfl (by omega) (by omega) (by omega) (fun a23 w4 ha4 hln4 hc4 hne4 => ?_)
    have q194 := gl h19_3
    have q204 := gl h20_3
    have q214 := gl h21_3
    have q224 := gl h22_3
    have qb4 := gl hbb_3
    have qF4 := hF3.1
    have h19_4 := (hne4 19 (by omega)).trans h19_3
    have h20_4 := (hne4 20 (by omega)).trans h20_3
    have h21_4 := (hne4 21 (by omega)).trans h21_3
    have h22_4 := (hne4 22 (by omega)).trans h22_3
    have hb_4 := (hne4 _ (by omega)).trans hbb_3
    have hF4 := hF3.pu ha4 hln4 hne4
    rw [aF_0] at hc4
    refine J_astore_n (pc := 25) dX8_isTwofold_25 rfl (by decide) rfl rfl ?_
    show J X mX8_isTwofold d (kc - 1) (ks - 49) 26 [some (.ref 19), some (.int (nI q1)), some (.ref a23), none, none, none, none, none] [] w4 _
    refine J_aload_n (pc := 26) dX8_isTwofold_26 rfl rfl rfl ?_
    refine J_iconst (pc := 27) (v := nI 1) dX8_isTwofold_27 (by decide) ?_
    refine J_iconst (pc := 28) (v := nI 1) dX8_isTwofold_28 (by decide) ?_
    refine J_iastF (pc := 29) dX8_isTwofold_29 hc4 (by omega) (by decide) (fun w5 hln5 hc5 hne5 => ?_)
    have h19_5 := (hne5 19 (by omega)).trans h19_4
    have h20_5 := (hne5 20 (by omega)).trans h20_4
    have h21_5 := (hne5 21 (by omega)).trans h21_4
    have h22_5 := (hne5 22 (by omega)).trans h22_4
    have hb_5 := (hne5 _ (by omega)).trans hb_4
    have hF5 := hF4.st hln5 hne5 (Or.inr (Or.inr (by omega)))
    refine J_iconst (pc := 30) (v := nI 1) dX8_isTwofold_30 (by decide) ?_
    refine J_istore_n (pc := 31) dX8_isTwofold_31 rfl (by decide) rfl ?_
    show J X mX8_isTwofold d (kc - 1) (ks - 49) 32 [some (.ref 19), some (.int (nI q1)), some (.ref a23), some (.int (nI 1)), none, none, none, none] [] w5 _
    refine J_iconst (pc := 32) (v := nI 1) dX8_isTwofold_32 (by decide) ?_
    refine J_istore (pc := 33) dX8_isTwofold_33 (by decide) rfl ?_
    show J X mX8_isTwofold d (kc - 1) (ks - 49) 35 [some (.ref 19), some (.int (nI q1)), some (.ref a23), some (.int (nI 1)), some (.int (nI 1)), none, none, none] [] w5 _
    have lp35_6 : ∀ (fuel : Nat) (w7 : List jC) (f23_35 : Nat → Nat) (z3 : Int32) (u4 : Nat), (RM n mv rw nx b bt kn en dn rf kk (nI (tW 0 0)) w7) → (FR b b w w7) → (w7[a23]? = some (aF 49 f23_35)) → (u4 < 2) → (∀ i, f23_35 i < 2) → (2 * (49 - (cnt (fun i => f23_35 i == 1) 49)) + u4 < fuel) → J X mX8_isTwofold d (kc - 1) (ks - 49) 35 [some (.ref 19), some (.int (nI q1)), some (.ref a23), some (.int z3), some (.int (nI u4)), none, none, none] [] w7 (pI (fun v => ∃ k : Nat, v = nI k ∧ k < 2) (fun w' => ∃ (th' : Int32), RM n mv rw nx b bt kn en dn rf kk th' w' ∧ FR b b w w')) := by
      intro fuellp35_6
      induction fuellp35_6 with
      | zero => intros; omega
      | succ fuellp35_6 ihlp35_6 =>
        intro w7 f23_35 z3 u4 hR8 hF9 hl10 hv35_0 hv35_1 hf11
        obtain ⟨h19_12, h20_12, h21_12, h22_12, hb_12, hbl_12, hb3_12⟩ := hR8
        refine J_iload (pc := 35) dX8_isTwofold_35 rfl ?_
        refine J_if_eqN (pc := 37) (tgt := 150) dX8_isTwofold_37 (by decide) (by omega) (fun ht13 => ?_) (fun hf14 => ?_)
        · refine J_iload_n (pc := 150) dX8_isTwofold_150 rfl rfl ?_
          refine J_aload_n (pc := 151) dX8_isTwofold_151 rfl rfl rfl ?_
          refine J_get (pc := 152) (k := 0) dX8_isTwofold_152 kC9 (by decide) ff_X8_7 h19_12 rfl ?_
          refine J_aload_n (pc := 155) dX8_isTwofold_155 rfl rfl rfl ?_
          refine J_get (pc := 156) (k := 0) dX8_isTwofold_156 kC9 (by decide) ff_X8_7 h19_12 rfl ?_
          refine J_iconst (pc := 159) (v := nI 1) dX8_isTwofold_159 (by decide) ?_
          refine J_isubN (pc := 160) dX8_isTwofold_160 (by omega) ?_
          refine J_imulN (pc := 161) dX8_isTwofold_161 ?_
          refine J_icmp_ne (pc := 162) (tgt := 169) dX8_isTwofold_162 (by decide) (fun ht15 => ?_) (fun hf16 => ?_)
          · refine J_iconst (pc := 169) (v := nI 0) dX8_isTwofold_169 (by decide) ?_
            exact J_zret (pc := 170) dX8_isTwofold_170 rfl (nar_b (by first | decide | omega)) ⟨⟨0, rfl, by omega⟩, ⟨nI (tW 0 0), ⟨h19_12, h20_12, h21_12, h22_12, hb_12, hbl_12, hb3_12⟩, hF9⟩⟩
          · refine J_iconst (pc := 165) (v := nI 1) dX8_isTwofold_165 (by decide) ?_
            refine J_goto (pc := 166) (tgt := 170) dX8_isTwofold_166 (by decide) ?_
            exact J_zret (pc := 170) dX8_isTwofold_170 rfl (nar_b (by first | decide | omega)) ⟨⟨1, rfl, by omega⟩, ⟨nI (tW 0 0), ⟨h19_12, h20_12, h21_12, h22_12, hb_12, hbl_12, hb3_12⟩, hF9⟩⟩
        · refine J_iconst (pc := 40) (v := nI 0) dX8_isTwofold_40 (by decide) ?_
          refine J_istore (pc := 41) dX8_isTwofold_41 (by decide) rfl ?_
          show J X mX8_isTwofold d (kc - 1) (ks - 49) 43 [some (.ref 19), some (.int (nI q1)), some (.ref a23), some (.int z3), some (.int (nI 0)), none, none, none] [] w7 _
          refine J_iconst (pc := 43) (v := nI 0) dX8_isTwofold_43 (by decide) ?_
          refine J_istore (pc := 44) dX8_isTwofold_44 (by decide) rfl ?_
          show J X mX8_isTwofold d (kc - 1) (ks - 49) 46 [some (.ref 19), some (.int (nI q1)), some (.ref a23), some (.int z3), some (.int (nI 0)), some (.int (nI 0)), none, none] [] w7 _
          have lp46_17 : ∀ (fuel : Nat) (w18 : List jC) (f23_46 : Nat → Nat) (z3 : Int32) (v4 : Nat) (c5 : Nat), (RM n mv rw nx b bt kn en dn rf kk (nI (tW 0 0)) w18) → (FR b b w w18) → (w18[a23]? = some (aF 49 f23_46)) → (v4 < 2) → (∀ i, f23_46 i < 2) → (cnt (fun i => f23_35 i == 1) 49 ≤ (cnt (fun i => f23_46 i == 1) 49)) → (v4 = 1 → cnt (fun i => f23_35 i == 1) 49 < (cnt (fun i => f23_46 i == 1) 49)) → (c5 ≤ 6) → (6 - c5 < fuel) → J X mX8_isTwofold d (kc - 1) (ks - 49) 46 [some (.ref 19), some (.int (nI q1)), some (.ref a23), some (.int z3), some (.int (nI v4)), some (.int (nI c5)), none, none] [] w18 (pI (fun v => ∃ k : Nat, v = nI k ∧ k < 2) (fun w' => ∃ (th' : Int32), RM n mv rw nx b bt kn en dn rf kk th' w' ∧ FR b b w w')) := by
            intro fuellp46_17
            induction fuellp46_17 with
            | zero => intros; omega
            | succ fuellp46_17 ihlp46_17 =>
              intro w18 f23_46 z3 v4 c5 hR19 hF20 hl21 hv46_0 hv46_1 hv46_2 hv46_3 hv46_4 hf22
              obtain ⟨h19_23, h20_23, h21_23, h22_23, hb_23, hbl_23, hb3_23⟩ := hR19
              refine J_iload (pc := 46) dX8_isTwofold_46 rfl ?_
              refine J_bipush (pc := 48) (v := nI 6) dX8_isTwofold_48 (by decide) ?_
              refine J_icmp_geN (pc := 50) (tgt := 147) dX8_isTwofold_50 (by decide) (by omega) (by omega) (fun ht24 => ?_) (fun hf25 => ?_)
              · have hcl := cnt_le (fun i => f23_46 i == 1) 49
                refine J_goto (pc := 147) (tgt := 35) dX8_isTwofold_147 (by decide) ?_
                exact J_sub (L' := [some (.ref 19), some (.int (nI q1)), some (.ref a23), some (.int z3), some (.int (nI v4)), none, none, none]) ⟨rfl, ⟨rfl, ⟨rfl, ⟨rfl, ⟨rfl, trivial⟩⟩⟩⟩⟩ (ihlp35_6 w18 f23_46 z3 v4 ⟨h19_23, h20_23, h21_23, h22_23, hb_23, hbl_23, hb3_23⟩ hF20 hl21 (by first | assumption | omega) (by assumption) (by omega))
              · refine J_iload_n (pc := 53) dX8_isTwofold_53 rfl rfl ?_
                refine J_iload (pc := 54) dX8_isTwofold_54 rfl ?_
                refine J_ishrN (pc := 56) dX8_isTwofold_56 (by omega) (by omega) ?_
                refine J_iconst (pc := 57) (v := nI 1) dX8_isTwofold_57 (by decide) ?_
                have hm26 := Nat.mod_lt (q1 / 2 ^ c5) (show 0 < 2 ^ 1 by decide)
                have hm27 := Nat.div_le_self q1 (2 ^ c5)
                refine J_iandN (pc := 58) 1 dX8_isTwofold_58 (by omega) (by decide) ?_
                refine J_if_neN (pc := 59) (tgt := 65) dX8_isTwofold_59 (by decide) (by omega) (fun ht28 => ?_) (fun hf29 => ?_)
                · refine J_iconst (pc := 65) (v := nI 0) dX8_isTwofold_65 (by decide) ?_
                  refine J_istore (pc := 66) dX8_isTwofold_66 (by decide) rfl ?_
                  show J X mX8_isTwofold d (kc - 1) (ks - 49) 68 [some (.ref 19), some (.int (nI q1)), some (.ref a23), some (.int z3), some (.int (nI v4)), some (.int (nI c5)), some (.int (nI 0)), none] [] w18 _
                  have lp68_30 : ∀ (fuel : Nat) (w31 : List jC) (f23_68 : Nat → Nat) (z3 : Int32) (x4 : Nat) (c6 : Nat), (RM n mv rw nx b bt kn en dn rf kk (nI (tW 0 0)) w31) → (FR b b w w31) → (w31[a23]? = some (aF 49 f23_68)) → (x4 < 2) → (∀ i, f23_68 i < 2) → (cnt (fun i => f23_35 i == 1) 49 ≤ (cnt (fun i => f23_68 i == 1) 49)) → (x4 = 1 → cnt (fun i => f23_35 i == 1) 49 < (cnt (fun i => f23_68 i == 1) 49)) → (c6 ≤ 49) → (49 - c6 < fuel) → J X mX8_isTwofold d (kc - 1) (ks - 49) 68 [some (.ref 19), some (.int (nI q1)), some (.ref a23), some (.int z3), some (.int (nI x4)), some (.int (nI c5)), some (.int (nI c6)), none] [] w31 (pI (fun v => ∃ k : Nat, v = nI k ∧ k < 2) (fun w' => ∃ (th' : Int32), RM n mv rw nx b bt kn en dn rf kk th' w' ∧ FR b b w w')) := by
                    intro fuellp68_30
                    induction fuellp68_30 with
                    | zero => intros; omega
                    | succ fuellp68_30 ihlp68_30 =>
                      intro w31 f23_68 z3 x4 c6 hR32 hF33 hl34 hv68_0 hv68_1 hv68_2 hv68_3 hv68_4 hf35
                      obtain ⟨h19_36, h20_36, h21_36, h22_36, hb_36, hbl_36, hb3_36⟩ := hR32
                      refine J_iload (pc := 68) dX8_isTwofold_68 rfl ?_
                      refine J_aload_n (pc := 70) dX8_isTwofold_70 rfl rfl rfl ?_
                      refine J_alen (pc := 71) (n := nI 49) dX8_isTwofold_71 hl34 (by decide) (by rw [List.length_map, List.length_range]; rfl) ?_
                      refine J_icmp_geN (pc := 72) (tgt := 141) dX8_isTwofold_72 (by decide) (by omega) (by omega) (fun ht37 => ?_) (fun hf38 => ?_)
                      · refine J_iincN (pc := 141) (b := 1) dX8_isTwofold_141 rfl (by decide) (by decide) rfl ?_
                        show J X mX8_isTwofold d (kc - 1) (ks - 49) 144 [some (.ref 19), some (.int (nI q1)), some (.ref a23), some (.int z3), some (.int (nI x4)), some (.int (nI (c5 + 1))), some (.int (nI c6)), none] [] w31 _
                        refine J_goto (pc := 144) (tgt := 46) dX8_isTwofold_144 (by decide) ?_
                        exact J_sub (L' := [some (.ref 19), some (.int (nI q1)), some (.ref a23), some (.int z3), some (.int (nI x4)), some (.int (nI (c5 + 1))), none, none]) ⟨rfl, ⟨rfl, ⟨rfl, ⟨rfl, ⟨rfl, ⟨rfl, trivial⟩⟩⟩⟩⟩⟩ (ihlp46_17 w31 f23_68 z3 x4 (c5 + 1) ⟨h19_36, h20_36, h21_36, h22_36, hb_36, hbl_36, hb3_36⟩ hF33 hl34 (by first | assumption | omega) (by assumption) (by first | assumption | omega) (by first | assumption | omega) (by first | assumption | omega) (by omega))
                      · refine J_aload_n (pc := 75) dX8_isTwofold_75 rfl rfl rfl ?_
                        refine J_iload (pc := 76) dX8_isTwofold_76 rfl ?_
                        refine J_ialdF (pc := 78) dX8_isTwofold_78 hl34 (by omega) (by decide) ?_
                        have hq79 := hv68_1 c6
                        refine J_if_neN (pc := 79) (tgt := 85) dX8_isTwofold_79 (by decide) (by omega) (fun ht39 => ?_) (fun hf40 => ?_)
                        · refine J_aload_n (pc := 85) dX8_isTwofold_85 rfl rfl rfl ?_
                          refine J_iload (pc := 86) dX8_isTwofold_86 rfl ?_
                          refine J_iload (pc := 88) dX8_isTwofold_88 rfl ?_
                          refine J_bipush (pc := 90) (v := nI 7) dX8_isTwofold_90 (by decide) ?_
                          have hm41 := Nat.mod_lt c6 (show 0 < 7 by omega)
                          have hm42 := Nat.div_le_self c6 7
                          refine J_idivN (pc := 92) dX8_isTwofold_92 (by omega) (by omega) (by omega) ?_
                          refine J_callV0 (pc := 93) (M := mX8_isTwofold) (as := [.int (nI c5), .int (nI (c6 / 7))]) dX8_isTwofold_93 fw_X8_at fl_X8_82 fm_X8_at fe_X8_at h19_36 (by decide) rfl rfl rfl (c_X8_at hs (d := d - 1) (Nat.le_trans (by decide) hdm) (w := w31) (n := n) (mv := mv) (rw := rw) (nx := nx) (b := b) (bt := bt) (kn := kn) (en := en) (dn := dn) (rf := rf) (kk := kk) (th := nI (tW 0 0)) ⟨h19_36, h20_36, h21_36, h22_36, hb_36, hbl_36, hb3_36⟩ hn1 hn2 gm gr gx c5 (c6 / 7) (by first | assumption | omega) (by first | assumption | omega) (kc := 0) (ks := 0)) hdp (st := []) (Nat.le_of_ble_eq_true rfl) rfl (kr_P fun v43 hv43 => ?_) kx_I
                          subst hv43
                          have hq44 := gm (c5 * 7 + (c6 / 7))
                          refine J_bipush (pc := 96) (v := nI 7) dX8_isTwofold_96 (by decide) ?_
                          refine J_imulN (pc := 98) dX8_isTwofold_98 ?_
                          refine J_aload_n (pc := 99) dX8_isTwofold_99 rfl rfl rfl ?_
                          refine J_iload (pc := 100) dX8_isTwofold_100 rfl ?_
                          refine J_iload (pc := 102) dX8_isTwofold_102 rfl ?_
                          refine J_bipush (pc := 104) (v := nI 7) dX8_isTwofold_104 (by decide) ?_
                          have hm45 := Nat.mod_lt c6 (show 0 < 7 by omega)
                          have hm46 := Nat.div_le_self c6 7
                          refine J_iremN (pc := 106) dX8_isTwofold_106 (by omega) (by omega) (by omega) ?_
                          refine J_callV0 (pc := 107) (M := mX8_isTwofold) (as := [.int (nI c5), .int (nI (c6 % 7))]) dX8_isTwofold_107 fw_X8_at fl_X8_82 fm_X8_at fe_X8_at h19_36 (by decide) rfl rfl rfl (c_X8_at hs (d := d - 1) (Nat.le_trans (by decide) hdm) (w := w31) (n := n) (mv := mv) (rw := rw) (nx := nx) (b := b) (bt := bt) (kn := kn) (en := en) (dn := dn) (rf := rf) (kk := kk) (th := nI (tW 0 0)) ⟨h19_36, h20_36, h21_36, h22_36, hb_36, hbl_36, hb3_36⟩ hn1 hn2 gm gr gx c5 (c6 % 7) (by first | assumption | omega) (by first | assumption | omega) (kc := 0) (ks := 0)) hdp (st := [.int (nI ((mv (c5 * 7 + (c6 / 7))) * 7))]) (Nat.le_of_ble_eq_true rfl) rfl (kr_P fun v47 hv47 => ?_) kx_I
                          subst hv47
                          have hq48 := gm (c5 * 7 + (c6 % 7))
                          refine J_iaddN (pc := 110) dX8_isTwofold_110 ?_
                          refine J_istore (pc := 111) dX8_isTwofold_111 (by decide) rfl ?_
                          show J X mX8_isTwofold d (kc - 1) (ks - 49) 113 [some (.ref 19), some (.int (nI q1)), some (.ref a23), some (.int z3), some (.int (nI x4)), some (.int (nI c5)), some (.int (nI c6)), some (.int (nI (((mv (c5 * 7 + (c6 / 7))) * 7) + (mv (c5 * 7 + (c6 % 7))))))] [] w31 _
                          refine J_aload_n (pc := 113) dX8_isTwofold_113 rfl rfl rfl ?_
                          refine J_iload (pc := 114) dX8_isTwofold_114 rfl ?_
                          refine J_ialdF (pc := 116) dX8_isTwofold_116 hl34 (by omega) (by decide) ?_
                          refine J_iconst (pc := 117) (v := nI 1) dX8_isTwofold_117 (by decide) ?_
                          have hq118 := hv68_1 (((mv (c5 * 7 + (c6 / 7))) * 7) + (mv (c5 * 7 + (c6 % 7))))
                          refine J_icmp_neN (pc := 118) (tgt := 124) dX8_isTwofold_118 (by decide) (by omega) (by omega) (fun ht49 => ?_) (fun hf50 => ?_)
                          · refine J_aload_n (pc := 124) dX8_isTwofold_124 rfl rfl rfl ?_
                            refine J_iload (pc := 125) dX8_isTwofold_125 rfl ?_
                            refine J_iconst (pc := 127) (v := nI 1) dX8_isTwofold_127 (by decide) ?_
                            refine J_iastF (pc := 128) dX8_isTwofold_128 hl34 (by omega) (by decide) (fun w51 hln51 hc51 hne51 => ?_)
                            have h19_51 := (hne51 19 (by omega)).trans h19_36
                            have h20_51 := (hne51 20 (by omega)).trans h20_36
                            have h21_51 := (hne51 21 (by omega)).trans h21_36
                            have h22_51 := (hne51 22 (by omega)).trans h22_36
                            have hb_51 := (hne51 _ (by omega)).trans hb_36
                            have hF51 := hF33.st hln51 hne51 (Or.inr (Or.inr (by omega)))
                            have hcu := cnt_up1 (P := f23_68) (K := 49) (j := (((mv (c5 * 7 + (c6 / 7))) * 7) + (mv (c5 * 7 + (c6 % 7))))) (by omega) (by omega)
                            refine J_iinc (pc := 129) dX8_isTwofold_129 rfl rfl (by decide) rfl ?_
                            generalize z3 + Int32.ofInt 1 = x52
                            show J X mX8_isTwofold d (kc - 1) (ks - 49) 132 [some (.ref 19), some (.int (nI q1)), some (.ref a23), some (.int x52), some (.int (nI x4)), some (.int (nI c5)), some (.int (nI c6)), some (.int (nI (((mv (c5 * 7 + (c6 / 7))) * 7) + (mv (c5 * 7 + (c6 % 7))))))] [] w51 _
                            refine J_iconst (pc := 132) (v := nI 1) dX8_isTwofold_132 (by decide) ?_
                            refine J_istore (pc := 133) dX8_isTwofold_133 (by decide) rfl ?_
                            show J X mX8_isTwofold d (kc - 1) (ks - 49) 135 [some (.ref 19), some (.int (nI q1)), some (.ref a23), some (.int x52), some (.int (nI 1)), some (.int (nI c5)), some (.int (nI c6)), some (.int (nI (((mv (c5 * 7 + (c6 / 7))) * 7) + (mv (c5 * 7 + (c6 % 7))))))] [] w51 _
                            refine J_iincN (pc := 135) (b := 1) dX8_isTwofold_135 rfl (by decide) (by decide) rfl ?_
                            show J X mX8_isTwofold d (kc - 1) (ks - 49) 138 [some (.ref 19), some (.int (nI q1)), some (.ref a23), some (.int x52), some (.int (nI 1)), some (.int (nI c5)), some (.int (nI (c6 + 1))), some (.int (nI (((mv (c5 * 7 + (c6 / 7))) * 7) + (mv (c5 * 7 + (c6 % 7))))))] [] w51 _
                            refine J_goto (pc := 138) (tgt := 68) dX8_isTwofold_138 (by decide) ?_
                            exact J_sub (L' := [some (.ref 19), some (.int (nI q1)), some (.ref a23), some (.int x52), some (.int (nI 1)), some (.int (nI c5)), some (.int (nI (c6 + 1))), none]) ⟨rfl, ⟨rfl, ⟨rfl, ⟨rfl, ⟨rfl, ⟨rfl, ⟨rfl, trivial⟩⟩⟩⟩⟩⟩⟩ (ihlp68_30 w51 (up f23_68 (((mv (c5 * 7 + (c6 / 7))) * 7) + (mv (c5 * 7 + (c6 % 7)))) 1) x52 1 (c6 + 1) ⟨h19_51, h20_51, h21_51, h22_51, hb_51, hbl_36, hb3_36⟩ hF51 hc51 (by first | assumption | omega) (by first | assumption | exact up_b hv68_1 (by decide)) (by first | assumption | omega) (by first | assumption | omega) (by first | assumption | omega) (by omega))
                          · refine J_goto (pc := 121) (tgt := 135) dX8_isTwofold_121 (by decide) ?_
                            refine J_iincN (pc := 135) (b := 1) dX8_isTwofold_135 rfl (by decide) (by decide) rfl ?_
                            show J X mX8_isTwofold d (kc - 1) (ks - 49) 138 [some (.ref 19), some (.int (nI q1)), some (.ref a23), some (.int z3), some (.int (nI x4)), some (.int (nI c5)), some (.int (nI (c6 + 1))), some (.int (nI (((mv (c5 * 7 + (c6 / 7))) * 7) + (mv (c5 * 7 + (c6 % 7))))))] [] w31 _
                            refine J_goto (pc := 138) (tgt := 68) dX8_isTwofold_138 (by decide) ?_
                            exact J_sub (L' := [some (.ref 19), some (.int (nI q1)), some (.ref a23), some (.int z3), some (.int (nI x4)), some (.int (nI c5)), some (.int (nI (c6 + 1))), none]) ⟨rfl, ⟨rfl, ⟨rfl, ⟨rfl, ⟨rfl, ⟨rfl, ⟨rfl, trivial⟩⟩⟩⟩⟩⟩⟩ (ihlp68_30 w31 f23_68 z3 x4 (c6 + 1) ⟨h19_36, h20_36, h21_36, h22_36, hb_36, hbl_36, hb3_36⟩ hF33 hl34 (by first | assumption | omega) (by first | assumption | exact up_b hv68_1 (by decide)) (by first | assumption | omega) (by first | assumption | omega) (by first | assumption | omega) (by omega))
                        · refine J_goto (pc := 82) (tgt := 135) dX8_isTwofold_82 (by decide) ?_
                          refine J_iincN (pc := 135) (b := 1) dX8_isTwofold_135 rfl (by decide) (by decide) rfl ?_
                          show J X mX8_isTwofold d (kc - 1) (ks - 49) 138 [some (.ref 19), some (.int (nI q1)), some (.ref a23), some (.int z3), some (.int (nI x4)), some (.int (nI c5)), some (.int (nI (c6 + 1))), none] [] w31 _
                          refine J_goto (pc := 138) (tgt := 68) dX8_isTwofold_138 (by decide) ?_
                          exact J_sub (L' := [some (.ref 19), some (.int (nI q1)), some (.ref a23), some (.int z3), some (.int (nI x4)), some (.int (nI c5)), some (.int (nI (c6 + 1))), none]) ⟨rfl, ⟨rfl, ⟨rfl, ⟨rfl, ⟨rfl, ⟨rfl, ⟨rfl, trivial⟩⟩⟩⟩⟩⟩⟩ (ihlp68_30 w31 f23_68 z3 x4 (c6 + 1) ⟨h19_36, h20_36, h21_36, h22_36, hb_36, hbl_36, hb3_36⟩ hF33 hl34 (by first | assumption | omega) (by first | assumption | exact up_b hv68_1 (by decide)) (by first | assumption | omega) (by first | assumption | omega) (by first | assumption | omega) (by omega))
                  exact J_sub (L' := [some (.ref 19), some (.int (nI q1)), some (.ref a23), some (.int z3), some (.int (nI v4)), some (.int (nI c5)), some (.int (nI 0)), none]) ⟨rfl, ⟨rfl, ⟨rfl, ⟨rfl, ⟨rfl, ⟨rfl, ⟨rfl, trivial⟩⟩⟩⟩⟩⟩⟩ (lp68_30 _ w18 f23_46 z3 v4 0 ⟨h19_23, h20_23, h21_23, h22_23, hb_23, hbl_23, hb3_23⟩ hF20 hl21 (by first | assumption | omega) (by assumption) (by assumption) (by assumption) (by first | assumption | omega) (Nat.lt_succ_self _))
                · refine J_goto (pc := 62) (tgt := 141) dX8_isTwofold_62 (by decide) ?_
                  refine J_iincN (pc := 141) (b := 1) dX8_isTwofold_141 rfl (by decide) (by decide) rfl ?_
                  show J X mX8_isTwofold d (kc - 1) (ks - 49) 144 [some (.ref 19), some (.int (nI q1)), some (.ref a23), some (.int z3), some (.int (nI v4)), some (.int (nI (c5 + 1))), none, none] [] w18 _
                  refine J_goto (pc := 144) (tgt := 46) dX8_isTwofold_144 (by decide) ?_
                  exact J_sub (L' := [some (.ref 19), some (.int (nI q1)), some (.ref a23), some (.int z3), some (.int (nI v4)), some (.int (nI (c5 + 1))), none, none]) ⟨rfl, ⟨rfl, ⟨rfl, ⟨rfl, ⟨rfl, ⟨rfl, trivial⟩⟩⟩⟩⟩⟩ (ihlp46_17 w18 f23_46 z3 v4 (c5 + 1) ⟨h19_23, h20_23, h21_23, h22_23, hb_23, hbl_23, hb3_23⟩ hF20 hl21 (by first | assumption | omega) (by assumption) (by first | assumption | omega) (by first | assumption | omega) (by first | assumption | omega) (by omega))
          exact J_sub (L' := [some (.ref 19), some (.int (nI q1)), some (.ref a23), some (.int z3), some (.int (nI 0)), some (.int (nI 0)), none, none]) ⟨rfl, ⟨rfl, ⟨rfl, ⟨rfl, ⟨rfl, ⟨rfl, trivial⟩⟩⟩⟩⟩⟩ (lp46_17 _ w7 f23_35 z3 0 0 ⟨h19_12, h20_12, h21_12, h22_12, hb_12, hbl_12, hb3_12⟩ hF9 hl10 (by first | assumption | omega) (by assumption) (by first | assumption | omega) (by first | assumption | omega) (by first | assumption | omega) (Nat.lt_succ_self _))
    exact J_sub (L' := [some (.ref 19), some (.int (nI q1)), some (.ref a23), some (.int (nI 1)), some (.int (nI 1)), none, none, none]) ⟨rfl, ⟨rfl, ⟨rfl, ⟨rfl, ⟨rfl, trivial⟩⟩⟩⟩⟩ (lp35_6 _ w5 (up (fun _ => 0) 1 1) (nI 1) 1 ⟨h19_5, h20_5, h21_5, h22_5, hb_5, hbl_3, hb3_3⟩ hF5 hc5 (by first | assumption | omega) (by exact up_b (fun _ => by decide) (by decide)) (Nat.lt_succ_self _))
set_option maxRecDepth 100000 in
set_option maxHeartbeats 40000000 in
theorem c_X8_enoughNow {X : jX} (hs : X.1.stackTraces = false) {d : Nat} (hd : 4 ≤ d) {n : Nat} {mv rw nx : Nat → Nat} {b : Nat} {bt : List Int32} {kn en dn rf kk th : Int32} {w : List jC} (hR : RM n mv rw nx b bt kn en dn rf kk th w) (hn1 : 2 ≤ n) (hn2 : n ≤ 7) (gm : ∀ i, mv i < 7) (gr : ∀ i, rw i < 7) (gx : ∀ i, nx i < 7) (s : Nat) (hy0 : s < 64) (hy1 : PM n mv) (hy2 : KX n mv kn bt) {kc ks : Nat} (hkc : 13 ≤ kc) (hks : 2054 ≤ ks) : jMet X mX8_enoughNow d kc ks [.ref 19, .int (nI s)] w (pI (fun _ => True) (fun w' => ∃ (rw' : Nat → Nat), ∃ (nx' : Nat → Nat), ∃ (b' : Nat), ∃ (bt' : List Int32), ∃ (kn' : Int32), ∃ (en' : Int32), RM n mv rw' nx' b' bt' kn' en' dn rf kk th w' ∧ FR b b' w w' ∧ (∀ i, rw' i < 7) ∧ (∀ i, nx' i < 7) ∧ kn' = nI s ∧ BX n mv s bt')) := by
  refine jMet_of hs (by decide +kernel) (Nat.le_of_ble_eq_true rfl) (L := [some (.ref 19), some (.int (nI s))]) rfl ?_
  have hdm : 3 ≤ d - 1 := by omega
  have hdp : d - 1 + 1 ≤ d := by omega
  have hfc := fc_7 hn2
  have hfp := fc_pos n
  obtain ⟨h19, h20, h21, h22, hbb, hbl, hb3⟩ := hR
  have hF : FR b b w w := FR.rf
  refine J_aload_n (pc := 0) dX8_enoughNow_0 rfl rfl rfl ?_
  refine J_iload_n (pc := 1) dX8_enoughNow_1 rfl rfl ?_
  refine J_callV (pc := 2) (M := mX8_enoughNow) (as := [.int (nI s)]) dX8_enoughNow_2 fw_X8_group fl_X8_99 fm_X8_group fe_X8_group h19 (by decide) rfl rfl rfl (c_X8_group_ate hs (d := d - 1) (Nat.le_trans (by decide) hdm) (w := w) (n := n) (mv := mv) (rw := rw) (nx := nx) (b := b) (bt := bt) (kn := kn) (en := en) (dn := dn) (rf := rf) (kk := kk) (th := th) ⟨h19, h20, h21, h22, hbb, hbl, hb3⟩ hn1 hn2 gm gr gx s (by first | assumption | omega) (by first | assumption | omega) (by first | assumption | omega) (kc := 13) (ks := 2054) (Nat.le_refl _) (Nat.le_refl _)) hdp (by omega) (by omega) (st := []) (Nat.le_of_ble_eq_true rfl) rfl (kr_V fun w1 hw1 => ?_) kx_V
  obtain ⟨rw1, nx1, b1, bt1, kn1, en1, hR1, hFc1, hgrw1, hgnx1, hp1_0, hp1_1⟩ := hw1
  obtain ⟨h19_1, h20_1, h21_1, h22_1, hbb_1, hbl_1, hb3_1⟩ := hR1
  have qd1 := hFc1.2.1
  have hF1 := hF.tr hFc1
  refine J_aload_n (pc := 5) dX8_enoughNow_5 rfl rfl rfl ?_
  refine J_get (pc := 6) (k := 6) dX8_enoughNow_6 kC9 (by decide) ff_X8_85 h19_1 rfl ?_
  exact J_iret (pc := 9) dX8_enoughNow_9 rfl ⟨trivial, ⟨rw1, nx1, b1, bt1, kn1, en1, ⟨h19_1, h20_1, h21_1, h22_1, hbb_1, hbl_1, hb3_1⟩, hF1, hgrw1, hgnx1, (by first | assumption | omega), (by first | assumption | omega)⟩⟩
set_option maxRecDepth 100000 in
set_option maxHeartbeats 40000000 in
theorem c_X8_enough {X : jX} (hs : X.1.stackTraces = false) {d : Nat} (hd : 5 ≤ d) {n : Nat} {mv rw nx : Nat → Nat} {b : Nat} {bt : List Int32} {kn en dn rf kk th : Int32} {w : List jC} (hR : RM n mv rw nx b bt kn en dn rf kk th w) (hn1 : 2 ≤ n) (hn2 : n ≤ 7) (gm : ∀ i, mv i < 7) (gr : ∀ i, rw i < 7) (gx : ∀ i, nx i < 7) (s : Int32) (hy0 : PM n mv) (hy1 : KX n mv kn bt) {kc ks : Nat} (hkc : 13 ≤ kc) (hks : 2054 ≤ ks) : jMet X mX8_enough d kc ks [.ref 19, .int s] w (pI (fun _ => True) (fun w' => ∃ (rw' : Nat → Nat), ∃ (nx' : Nat → Nat), ∃ (b' : Nat), ∃ (bt' : List Int32), ∃ (kn' : Int32), ∃ (en' : Int32), ∃ (th' : Int32), RM n mv rw' nx' b' bt' kn' en' dn rf kk th' w' ∧ FR b b' w w' ∧ (∀ i, rw' i < 7) ∧ (∀ i, nx' i < 7) ∧ KX n mv kn' bt')) := by
  refine jMet_of hs (by decide +kernel) (Nat.le_of_ble_eq_true rfl) (L := [some (.ref 19), some (.int s)]) rfl ?_
  have hdm : 4 ≤ d - 1 := by omega
  have hdp : d - 1 + 1 ≤ d := by omega
  have hfc := fc_7 hn2
  have hfp := fc_pos n
  obtain ⟨h19, h20, h21, h22, hbb, hbl, hb3⟩ := hR
  have hF : FR b b w w := FR.rf
  refine J_aload_n (pc := 0) dX8_enough_0 rfl rfl rfl ?_
  refine J_iload_n (pc := 1) dX8_enough_1 rfl rfl ?_
  refine J_callS0 (pc := 2) (M := mX8_enough) (as := [.int s]) dX8_enough_2 fw_X8_isSet fl_X8_134 fs_X8_isSet rfl (c_X8_isSet hs (d := d - 1) (Nat.le_trans (by decide) hdm) (w := w) s (kc := 0) (ks := 0)) hdp (st := [.ref 19]) (Nat.le_of_ble_eq_true rfl) rfl (kr_P fun v1 hv1 => ?_) kx_I
  rcases hv1 with ⟨rfl, hk1_0⟩ | ⟨q1, rfl, hk1_0, rfl⟩
  · refine J_if_neN (pc := 5) (tgt := 12) dX8_enough_5 (by decide) (by decide) (fun h => absurd h (by decide)) (fun _ => ?_)
    refine J_iconst (pc := 8) (v := nI 1) dX8_enough_8 (by decide) ?_
    refine J_goto (pc := 9) (tgt := 13) dX8_enough_9 (by decide) ?_
    refine J_callV0 (pc := 13) (M := mX8_enough) (as := [.int (nI 1)]) dX8_enough_13 fw_X8_isThrown_ fl_X8_105 fm_X8_isThrown_ fe_X8_isThrown_ h19 (by decide) rfl rfl rfl (c_X8_isThrown_ hs (d := d - 1) (Nat.le_trans (by decide) hdm) (w := w) (n := n) (mv := mv) (rw := rw) (nx := nx) (b := b) (bt := bt) (kn := kn) (en := en) (dn := dn) (rf := rf) (kk := kk) (th := th) ⟨h19, h20, h21, h22, hbb, hbl, hb3⟩ hn1 hn2 gm gr gx 1 (by first | assumption | omega) (kc := 0) (ks := 0)) hdp (st := []) (Nat.le_of_ble_eq_true rfl) rfl (kr_I fun v2 w2 hv2 hw2 => ?_) kx_I
    obtain ⟨hR2, hFc2⟩ := hw2
    obtain ⟨h19_2, h20_2, h21_2, h22_2, hbb_2, hbl_2, hb3_2⟩ := hR2
    have hF2 := hF.tr hFc2
    subst hv2
    show J X mX8_enough d kc ks 16 [some (.ref 19), some (.int s)] [.int (nI 1)] w2 _
    refine J_if_eqN (pc := 16) (tgt := 23) dX8_enough_16 (by decide) (by decide) (fun h => absurd h (by decide)) (fun _ => ?_)
    refine J_iconst (pc := 19) (v := nI 0) dX8_enough_19 (by decide) ?_
    refine J_goto (pc := 20) (tgt := 28) dX8_enough_20 (by decide) ?_
    exact J_iret (pc := 28) dX8_enough_28 rfl ⟨trivial, ⟨rw, nx, b, bt, kn, en, nI (tW 1 0), ⟨h19_2, h20_2, h21_2, h22_2, hbb_2, hbl_2, hb3_2⟩, hF2, gr, gx, (by first | assumption | exact KX_i (by assumption) (by omega) (by first | rfl | assumption))⟩⟩
  · refine J_if_neN (pc := 5) (tgt := 12) dX8_enough_5 (by decide) (by decide) (fun _ => ?_) (fun h => absurd h (by decide))
    refine J_iconst (pc := 12) (v := nI 0) dX8_enough_12 (by decide) ?_
    refine J_callV0 (pc := 13) (M := mX8_enough) (as := [.int (nI 0)]) dX8_enough_13 fw_X8_isThrown_ fl_X8_105 fm_X8_isThrown_ fe_X8_isThrown_ h19 (by decide) rfl rfl rfl (c_X8_isThrown_ hs (d := d - 1) (Nat.le_trans (by decide) hdm) (w := w) (n := n) (mv := mv) (rw := rw) (nx := nx) (b := b) (bt := bt) (kn := kn) (en := en) (dn := dn) (rf := rf) (kk := kk) (th := th) ⟨h19, h20, h21, h22, hbb, hbl, hb3⟩ hn1 hn2 gm gr gx 0 (by first | assumption | omega) (kc := 0) (ks := 0)) hdp (st := []) (Nat.le_of_ble_eq_true rfl) rfl (kr_I fun v3 w3 hv3 hw3 => ?_) kx_I
    obtain ⟨hR3, hFc3⟩ := hw3
    obtain ⟨h19_3, h20_3, h21_3, h22_3, hbb_3, hbl_3, hb3_3⟩ := hR3
    have hF3 := hF.tr hFc3
    subst hv3
    show J X mX8_enough d kc ks 16 [some (.ref 19), some (.int (nI q1))] [.int (nI 0)] w3 _
    refine J_if_eqN (pc := 16) (tgt := 23) dX8_enough_16 (by decide) (by decide) (fun _ => ?_) (fun h => absurd h (by decide))
    refine J_aload_n (pc := 23) dX8_enough_23 rfl rfl rfl ?_
    refine J_iload_n (pc := 24) dX8_enough_24 rfl rfl ?_
    refine J_callV (pc := 25) (M := mX8_enough) (as := [.int (nI q1)]) dX8_enough_25 fw_X8_enoughNow fl_X8_224 fm_X8_enoughNow fe_X8_enoughNow h19_3 (by decide) rfl rfl rfl (c_X8_enoughNow hs (d := d - 1) (Nat.le_trans (by decide) hdm) (w := w3) (n := n) (mv := mv) (rw := rw) (nx := nx) (b := b) (bt := bt) (kn := kn) (en := en) (dn := dn) (rf := rf) (kk := kk) (th := nI (tW 0 0)) ⟨h19_3, h20_3, h21_3, h22_3, hbb_3, hbl_3, hb3_3⟩ hn1 hn2 gm gr gx q1 (by first | assumption | omega) (by first | assumption | omega) (by first | assumption | omega) (kc := 13) (ks := 2054) (Nat.le_refl _) (Nat.le_refl _)) hdp (by omega) (by omega) (st := []) (Nat.le_of_ble_eq_true rfl) rfl (kr_I fun v4 w4 hv4 hw4 => ?_) kx_I
    obtain ⟨rw4, nx4, b4, bt4, kn4, en4, hR4, hFc4, hgrw4, hgnx4, hp4_0, hp4_1⟩ := hw4
    obtain ⟨h19_4, h20_4, h21_4, h22_4, hbb_4, hbl_4, hb3_4⟩ := hR4
    have qd4 := hFc4.2.1
    have hF4 := hF3.tr hFc4
    exact J_iret (pc := 28) dX8_enough_28 rfl ⟨trivial, ⟨rw4, nx4, b4, bt4, kn4, en4, nI (tW 0 0), ⟨h19_4, h20_4, h21_4, h22_4, hbb_4, hbl_4, hb3_4⟩, hF4, hgrw4, hgnx4, (by first | assumption | exact KX_i (by assumption) (by omega) (by first | rfl | assumption))⟩⟩
set_option maxRecDepth 100000 in
set_option maxHeartbeats 40000000 in
theorem c_X8_houseNow {X : jX} (hs : X.1.stackTraces = false) {d : Nat} (hd : 0 ≤ d) {n : Nat} {mv rw nx : Nat → Nat} {b : Nat} {bt : List Int32} {kn en dn rf kk th : Int32} {w : List jC} (hR : RM n mv rw nx b bt kn en dn rf kk th w) (hn1 : 2 ≤ n) (hn2 : n ≤ 7) (gm : ∀ i, mv i < 7) (gr : ∀ i, rw i < 7) (gx : ∀ i, nx i < 7) (a : Int32) {kc ks : Nat} : jMet X mX8_houseNow d kc ks [.ref 19, .int a] w (pI (fun _ => True) (fun w' => w' = w)) := by
  refine jMet_of hs (by decide +kernel) (Nat.le_of_ble_eq_true rfl) (L := [some (.ref 19), some (.int a)]) rfl ?_
  have hfc := fc_7 hn2
  have hfp := fc_pos n
  obtain ⟨h19, h20, h21, h22, hbb, hbl, hb3⟩ := hR
  have hF : FR b b w w := FR.rf
  refine J_iload_n (pc := 0) dX8_houseNow_0 rfl rfl ?_
  refine J_if_ne (pc := 1) (tgt := 11) dX8_houseNow_1 (by decide) (fun ht1 => ?_) (fun hf2 => ?_)
  · refine J_iload_n (pc := 11) dX8_houseNow_11 rfl rfl ?_
    refine J_iconst (pc := 12) (v := nI 1) dX8_houseNow_12 (by decide) ?_
    refine J_icmp_ne (pc := 13) (tgt := 23) dX8_houseNow_13 (by decide) (fun ht3 => ?_) (fun hf4 => ?_)
    · refine J_aload_n (pc := 23) dX8_houseNow_23 rfl rfl rfl ?_
      refine J_get (pc := 24) (k := 9) dX8_houseNow_24 kC9 (by decide) ff_X8_227 h19 rfl ?_
      exact J_iret (pc := 27) dX8_houseNow_27 rfl ⟨trivial, rfl⟩
    · refine J_aload_n (pc := 16) dX8_houseNow_16 rfl rfl rfl ?_
      refine J_get (pc := 17) (k := 8) dX8_houseNow_17 kC9 (by decide) ff_X8_42 h19 rfl ?_
      refine J_goto (pc := 20) (tgt := 27) dX8_houseNow_20 (by decide) ?_
      exact J_iret (pc := 27) dX8_houseNow_27 rfl ⟨trivial, rfl⟩
  · refine J_aload_n (pc := 4) dX8_houseNow_4 rfl rfl rfl ?_
    refine J_get (pc := 5) (k := 7) dX8_houseNow_5 kC9 (by decide) ff_X8_39 h19 rfl ?_
    refine J_goto (pc := 8) (tgt := 27) dX8_houseNow_8 (by decide) ?_
    exact J_iret (pc := 27) dX8_houseNow_27 rfl ⟨trivial, rfl⟩
end
section
/-! contracts of the reference: rspec4 -/
set_option maxRecDepth 100000 in
set_option maxHeartbeats 40000000 in
theorem c_X8_house {X : jX} (hs : X.1.stackTraces = false) {d : Nat} (hd : 2 ≤ d) {n : Nat} {mv rw nx : Nat → Nat} {b : Nat} {bt : List Int32} {kn en dn rf kk th : Int32} {w : List jC} (hR : RM n mv rw nx b bt kn en dn rf kk th w) (hn1 : 2 ≤ n) (hn2 : n ≤ 7) (gm : ∀ i, mv i < 7) (gr : ∀ i, rw i < 7) (gx : ∀ i, nx i < 7) (a : Int32) {kc ks : Nat} : jMet X mX8_house d kc ks [.ref 19, .int a] w (pI (fun _ => True) (fun w' => ∃ (th' : Int32), RM n mv rw nx b bt kn en dn rf kk th' w' ∧ FR b b w w')) := by
  refine jMet_of hs (by decide +kernel) (Nat.le_of_ble_eq_true rfl) (L := [some (.ref 19), some (.int a)]) rfl ?_
  have hdm : 1 ≤ d - 1 := by omega
  have hdp : d - 1 + 1 ≤ d := by omega
  have hfc := fc_7 hn2
  have hfp := fc_pos n
  obtain ⟨h19, h20, h21, h22, hbb, hbl, hb3⟩ := hR
  have hF : FR b b w w := FR.rf
  refine J_aload_n (pc := 0) dX8_house_0 rfl rfl rfl ?_
  refine J_iload_n (pc := 1) dX8_house_1 rfl rfl ?_
  refine J_if_lt (pc := 2) (tgt := 10) dX8_house_2 (by decide) (fun ht1 => ?_) (fun hf2 => ?_)
  · refine J_iconst (pc := 10) (v := nI 1) dX8_house_10 (by decide) ?_
    refine J_goto (pc := 11) (tgt := 15) dX8_house_11 (by decide) ?_
    refine J_callV0 (pc := 15) (M := mX8_house) (as := [.int (nI 1)]) dX8_house_15 fw_X8_isThrown_ fl_X8_105 fm_X8_isThrown_ fe_X8_isThrown_ h19 (by decide) rfl rfl rfl (c_X8_isThrown_ hs (d := d - 1) (Nat.le_trans (by decide) hdm) (w := w) (n := n) (mv := mv) (rw := rw) (nx := nx) (b := b) (bt := bt) (kn := kn) (en := en) (dn := dn) (rf := rf) (kk := kk) (th := th) ⟨h19, h20, h21, h22, hbb, hbl, hb3⟩ hn1 hn2 gm gr gx 1 (by first | assumption | omega) (kc := 0) (ks := 0)) hdp (st := []) (Nat.le_of_ble_eq_true rfl) rfl (kr_I fun v3 w3 hv3 hw3 => ?_) kx_I
    obtain ⟨hR3, hFc3⟩ := hw3
    obtain ⟨h19_3, h20_3, h21_3, h22_3, hbb_3, hbl_3, hb3_3⟩ := hR3
    have hF3 := hF.tr hFc3
    subst hv3
    show J X mX8_house d kc ks 18 [some (.ref 19), some (.int a)] [.int (nI 1)] w3 _
    refine J_if_eqN (pc := 18) (tgt := 25) dX8_house_18 (by decide) (by decide) (fun h => absurd h (by decide)) (fun _ => ?_)
    refine J_iconst (pc := 21) (v := nI 0) dX8_house_21 (by decide) ?_
    refine J_goto (pc := 22) (tgt := 30) dX8_house_22 (by decide) ?_
    exact J_iret (pc := 30) dX8_house_30 rfl ⟨trivial, ⟨nI (tW 1 0), ⟨h19_3, h20_3, h21_3, h22_3, hbb_3, hbl_3, hb3_3⟩, hF3⟩⟩
  · refine J_iload_n (pc := 5) dX8_house_5 rfl rfl ?_
    refine J_iconst (pc := 6) (v := nI 2) dX8_house_6 (by decide) ?_
    refine J_icmp_le (pc := 7) (tgt := 14) dX8_house_7 (by decide) (fun ht4 => ?_) (fun hf5 => ?_)
    · refine J_iconst (pc := 14) (v := nI 0) dX8_house_14 (by decide) ?_
      refine J_callV0 (pc := 15) (M := mX8_house) (as := [.int (nI 0)]) dX8_house_15 fw_X8_isThrown_ fl_X8_105 fm_X8_isThrown_ fe_X8_isThrown_ h19 (by decide) rfl rfl rfl (c_X8_isThrown_ hs (d := d - 1) (Nat.le_trans (by decide) hdm) (w := w) (n := n) (mv := mv) (rw := rw) (nx := nx) (b := b) (bt := bt) (kn := kn) (en := en) (dn := dn) (rf := rf) (kk := kk) (th := th) ⟨h19, h20, h21, h22, hbb, hbl, hb3⟩ hn1 hn2 gm gr gx 0 (by first | assumption | omega) (kc := 0) (ks := 0)) hdp (st := []) (Nat.le_of_ble_eq_true rfl) rfl (kr_I fun v6 w6 hv6 hw6 => ?_) kx_I
      obtain ⟨hR6, hFc6⟩ := hw6
      obtain ⟨h19_6, h20_6, h21_6, h22_6, hbb_6, hbl_6, hb3_6⟩ := hR6
      have hF6 := hF.tr hFc6
      subst hv6
      show J X mX8_house d kc ks 18 [some (.ref 19), some (.int a)] [.int (nI 0)] w6 _
      refine J_if_eqN (pc := 18) (tgt := 25) dX8_house_18 (by decide) (by decide) (fun _ => ?_) (fun h => absurd h (by decide))
      refine J_aload_n (pc := 25) dX8_house_25 rfl rfl rfl ?_
      refine J_iload_n (pc := 26) dX8_house_26 rfl rfl ?_
      refine J_callV0 (pc := 27) (M := mX8_house) (as := [.int a]) dX8_house_27 fw_X8_houseNow fl_X8_230 fm_X8_houseNow fe_X8_houseNow h19_6 (by decide) rfl rfl rfl (c_X8_houseNow hs (d := d - 1) (Nat.le_trans (by decide) hdm) (w := w6) (n := n) (mv := mv) (rw := rw) (nx := nx) (b := b) (bt := bt) (kn := kn) (en := en) (dn := dn) (rf := rf) (kk := kk) (th := nI (tW 0 0)) ⟨h19_6, h20_6, h21_6, h22_6, hbb_6, hbl_6, hb3_6⟩ hn1 hn2 gm gr gx a (kc := 0) (ks := 0)) hdp (st := []) (Nat.le_of_ble_eq_true rfl) rfl (kr_P fun v7 hv7 => ?_) kx_I
      exact J_iret (pc := 30) dX8_house_30 rfl ⟨trivial, ⟨nI (tW 0 0), ⟨h19_6, h20_6, h21_6, h22_6, hbb_6, hbl_6, hb3_6⟩, hF6⟩⟩
    · refine J_iconst (pc := 10) (v := nI 1) dX8_house_10 (by decide) ?_
      refine J_goto (pc := 11) (tgt := 15) dX8_house_11 (by decide) ?_
      refine J_callV0 (pc := 15) (M := mX8_house) (as := [.int (nI 1)]) dX8_house_15 fw_X8_isThrown_ fl_X8_105 fm_X8_isThrown_ fe_X8_isThrown_ h19 (by decide) rfl rfl rfl (c_X8_isThrown_ hs (d := d - 1) (Nat.le_trans (by decide) hdm) (w := w) (n := n) (mv := mv) (rw := rw) (nx := nx) (b := b) (bt := bt) (kn := kn) (en := en) (dn := dn) (rf := rf) (kk := kk) (th := th) ⟨h19, h20, h21, h22, hbb, hbl, hb3⟩ hn1 hn2 gm gr gx 1 (by first | assumption | omega) (kc := 0) (ks := 0)) hdp (st := []) (Nat.le_of_ble_eq_true rfl) rfl (kr_I fun v8 w8 hv8 hw8 => ?_) kx_I
      obtain ⟨hR8, hFc8⟩ := hw8
      obtain ⟨h19_8, h20_8, h21_8, h22_8, hbb_8, hbl_8, hb3_8⟩ := hR8
      have hF8 := hF.tr hFc8
      subst hv8
      show J X mX8_house d kc ks 18 [some (.ref 19), some (.int a)] [.int (nI 1)] w8 _
      refine J_if_eqN (pc := 18) (tgt := 25) dX8_house_18 (by decide) (by decide) (fun h => absurd h (by decide)) (fun _ => ?_)
      refine J_iconst (pc := 21) (v := nI 0) dX8_house_21 (by decide) ?_
      refine J_goto (pc := 22) (tgt := 30) dX8_house_22 (by decide) ?_
      exact J_iret (pc := 30) dX8_house_30 rfl ⟨trivial, ⟨nI (tW 1 0), ⟨h19_8, h20_8, h21_8, h22_8, hbb_8, hbl_8, hb3_8⟩, hF8⟩⟩
set_option maxRecDepth 100000 in
set_option maxHeartbeats 40000000 in
theorem c_X8_knock {X : jX} (hs : X.1.stackTraces = false) {d : Nat} (hd : 0 ≤ d) {n : Nat} {mv rw nx : Nat → Nat} {b : Nat} {bt : List Int32} {kn en dn rf kk th : Int32} {w : List jC} (hR : RM n mv rw nx b bt kn en dn rf kk th w) (hn1 : 2 ≤ n) (hn2 : n ≤ 7) (gm : ∀ i, mv i < 7) (gr : ∀ i, rw i < 7) (gx : ∀ i, nx i < 7) {kc ks : Nat} : jMet X mX8_knock d kc ks [.ref 19] w (pI (fun v => v = (kk + nI 1)) (fun w' => RM n mv rw nx b bt kn en dn rf (kk + nI 1) (nI 0) w' ∧ FR b b w w')) := by
  refine jMet_of hs (by decide +kernel) (Nat.le_of_ble_eq_true rfl) (L := [some (.ref 19)]) rfl ?_
  have hfc := fc_7 hn2
  have hfp := fc_pos n
  obtain ⟨h19, h20, h21, h22, hbb, hbl, hb3⟩ := hR
  have hF : FR b b w w := FR.rf
  refine J_aload_n (pc := 0) dX8_knock_0 rfl rfl rfl ?_
  refine J_iconst (pc := 1) (v := nI 0) dX8_knock_1 (by decide) ?_
  refine J_putW (pc := 2) (k := 10) dX8_knock_2 kC9 (by decide) ff_X8_32 (Or.inl rfl) ⟨rfl, rfl⟩ h19 (by show 10 < 11; decide) (fun w1 hln1 hw1 hne1 => ?_)
  have h19_1 : w1[19]? = some (.inr (9, [.int (nI n), .ref 20, .ref 21, .ref 22, .ref b, .int kn, .int en, .int dn, .int rf, .int kk, .int (nI 0)])) := hw1
  have h20_1 := (hne1 20 (by decide)).trans h20
  have h21_1 := (hne1 21 (by decide)).trans h21
  have h22_1 := (hne1 22 (by decide)).trans h22
  have hb_1 := (hne1 _ (Nat.ne_of_gt (Nat.lt_of_lt_of_le (by decide) hb3))).trans hbb
  have hF1 := hF.st hln1 hne1 (Or.inl (by decide))
  refine J_aload_n (pc := 5) dX8_knock_5 rfl rfl rfl ?_
  refine J_dup (pc := 6) dX8_knock_6 rfl ?_
  refine J_get (pc := 7) (k := 9) dX8_knock_7 kC9 (by decide) ff_X8_227 h19_1 rfl ?_
  refine J_iconst (pc := 10) (v := nI 1) dX8_knock_10 (by decide) ?_
  refine J_iadd (pc := 11) dX8_knock_11 ?_
  refine J_putW (pc := 12) (k := 9) dX8_knock_12 kC9 (by decide) ff_X8_227 (Or.inl rfl) ⟨rfl, rfl⟩ h19_1 (by show 9 < 11; decide) (fun w2 hln2 hw2 hne2 => ?_)
  have h19_2 : w2[19]? = some (.inr (9, [.int (nI n), .ref 20, .ref 21, .ref 22, .ref b, .int kn, .int en, .int dn, .int rf, .int (kk + nI 1), .int (nI 0)])) := hw2
  have h20_2 := (hne2 20 (by decide)).trans h20_1
  have h21_2 := (hne2 21 (by decide)).trans h21_1
  have h22_2 := (hne2 22 (by decide)).trans h22_1
  have hb_2 := (hne2 _ (Nat.ne_of_gt (Nat.lt_of_lt_of_le (by decide) hb3))).trans hb_1
  have hF2 := hF1.st hln2 hne2 (Or.inl (by decide))
  refine J_aload_n (pc := 15) dX8_knock_15 rfl rfl rfl ?_
  refine J_get (pc := 16) (k := 9) dX8_knock_16 kC9 (by decide) ff_X8_227 h19_2 rfl ?_
  exact J_iret (pc := 19) dX8_knock_19 rfl ⟨rfl, ⟨⟨h19_2, h20_2, h21_2, h22_2, hb_2, hbl, hb3⟩, hF2⟩⟩
end
