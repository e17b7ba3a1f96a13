/-! contracts of the reference: rspec4 -/
set_option maxRecDepth 100000 in
set_option maxHeartbeats 40000000 in
theorem c_X8_colourings {X : jX} (hs : X.1.stackTraces = false) {d : Nat} (hd : 5 ≤ d) {n : Nat} {mv rw nx : Nat → Nat} {b : Nat} {bt : List Int32} {kn en dn rf kk th : Int32} {w : List jC} (hR : RM n mv rw nx b bt kn en dn rf kk th w) (hn1 : 2 ≤ n) (hn2 : n ≤ 7) (gm : ∀ i, mv i < 7) (gr : ∀ i, rw i < 7) (gx : ∀ i, nx i < 7) (s : Int32) (c : Int32) (e : Int32) (hy0 : PM n mv) (hy1 : KX n mv kn bt) {kc ks : Nat} (hkc : 15 ≤ kc) (hks : 6428 ≤ ks) : jMet X mX8_colourings d kc ks [.ref 19, .int s, .int c, .int e] w (pI (fun _ => True) (fun w' => ∃ (rw' : Nat → Nat), ∃ (nx' : Nat → Nat), ∃ (b' : Nat), ∃ (bt' : List Int32), ∃ (kn' : Int32), ∃ (en' : Int32), ∃ (th' : Int32), RM n mv rw' nx' b' bt' kn' en' dn rf kk th' w' ∧ FR b b' w w' ∧ (∀ i, rw' i < 7) ∧ (∀ i, nx' i < 7) ∧ KX n mv kn' bt')) := by
  refine jMet_of hs (by decide +kernel) (Nat.le_of_ble_eq_true rfl) (L := [some (.ref 19), some (.int s), some (.int c), some (.int e)]) rfl ?_
  have hdm : 4 ≤ d - 1 := by omega
  have hdp : d - 1 + 1 ≤ d := by omega
  have hfc := fc_7 hn2
  have hfp := fc_pos n
  obtain ⟨h19, h20, h21, h22, hbb, hbl, hb3⟩ := hR
  have hF : FR b b w w := FR.rf
  refine J_aload_n (pc := 0) dX8_colourings_0 rfl rfl rfl ?_
  refine J_iload_n (pc := 1) dX8_colourings_1 rfl rfl ?_
  refine J_callS0 (pc := 2) (M := mX8_colourings) (as := [.int s]) dX8_colourings_2 fw_X8_isSet fl_X8_134 fs_X8_isSet rfl (c_X8_isSet hs (d := d - 1) (Nat.le_trans (by decide) hdm) (w := w) s (kc := 0) (ks := 0)) hdp (st := [.ref 19]) (Nat.le_of_ble_eq_true rfl) rfl (kr_P fun v1 hv1 => ?_) kx_I
  rcases hv1 with ⟨rfl, hk1_0⟩ | ⟨q1, rfl, hk1_0, rfl⟩
  · refine J_if_eqN (pc := 5) (tgt := 27) dX8_colourings_5 (by decide) (by decide) (fun _ => ?_) (fun h => absurd h (by decide))
    refine J_iconst (pc := 27) (v := nI 1) dX8_colourings_27 (by decide) ?_
    refine J_goto (pc := 28) (tgt := 32) dX8_colourings_28 (by decide) ?_
    refine J_callV0 (pc := 32) (M := mX8_colourings) (as := [.int (nI 1)]) dX8_colourings_32 fw_X8_isThrown_ fl_X8_105 fm_X8_isThrown_ fe_X8_isThrown_ h19 (by decide) rfl rfl rfl (c_X8_isThrown_ hs (d := d - 1) (Nat.le_trans (by decide) hdm) (w := w) (n := n) (mv := mv) (rw := rw) (nx := nx) (b := b) (bt := bt) (kn := kn) (en := en) (dn := dn) (rf := rf) (kk := kk) (th := th) ⟨h19, h20, h21, h22, hbb, hbl, hb3⟩ hn1 hn2 gm gr gx 1 (by first | assumption | omega) (kc := 0) (ks := 0)) hdp (st := []) (Nat.le_of_ble_eq_true rfl) rfl (kr_I fun v2 w2 hv2 hw2 => ?_) kx_I
    obtain ⟨hR2, hFc2⟩ := hw2
    obtain ⟨h19_2, h20_2, h21_2, h22_2, hbb_2, hbl_2, hb3_2⟩ := hR2
    have hF2 := hF.tr hFc2
    subst hv2
    show J X mX8_colourings d kc ks 35 [some (.ref 19), some (.int s), some (.int c), some (.int e)] [.int (nI 1)] w2 _
    refine J_if_eqN (pc := 35) (tgt := 40) dX8_colourings_35 (by decide) (by decide) (fun h => absurd h (by decide)) (fun _ => ?_)
    refine J_iconst (pc := 38) (v := nI 0) dX8_colourings_38 (by decide) ?_
    exact J_iret (pc := 39) dX8_colourings_39 rfl ⟨trivial, ⟨rw, nx, b, bt, kn, en, nI (tW 1 0), ⟨h19_2, h20_2, h21_2, h22_2, hbb_2, hbl_2, hb3_2⟩, hF2, gr, gx, (by first | assumption | exact KX_i (by assumption) (by omega) (by first | rfl | assumption))⟩⟩
  · refine J_if_eqN (pc := 5) (tgt := 27) dX8_colourings_5 (by decide) (by decide) (fun h => absurd h (by decide)) (fun _ => ?_)
    refine J_iload_n (pc := 8) dX8_colourings_8 rfl rfl ?_
    refine J_iconst (pc := 9) (v := nI 1) dX8_colourings_9 (by decide) ?_
    refine J_icmp_lt (pc := 10) (tgt := 27) dX8_colourings_10 (by decide) (fun ht3 => ?_) (fun hf4 => ?_)
    · refine J_iconst (pc := 27) (v := nI 1) dX8_colourings_27 (by decide) ?_
      refine J_goto (pc := 28) (tgt := 32) dX8_colourings_28 (by decide) ?_
      refine J_callV0 (pc := 32) (M := mX8_colourings) (as := [.int (nI 1)]) dX8_colourings_32 fw_X8_isThrown_ fl_X8_105 fm_X8_isThrown_ fe_X8_isThrown_ h19 (by decide) rfl rfl rfl (c_X8_isThrown_ hs (d := d - 1) (Nat.le_trans (by decide) hdm) (w := w) (n := n) (mv := mv) (rw := rw) (nx := nx) (b := b) (bt := bt) (kn := kn) (en := en) (dn := dn) (rf := rf) (kk := kk) (th := th) ⟨h19, h20, h21, h22, hbb, hbl, hb3⟩ hn1 hn2 gm gr gx 1 (by first | assumption | omega) (kc := 0) (ks := 0)) hdp (st := []) (Nat.le_of_ble_eq_true rfl) rfl (kr_I fun v5 w5 hv5 hw5 => ?_) kx_I
      obtain ⟨hR5, hFc5⟩ := hw5
      obtain ⟨h19_5, h20_5, h21_5, h22_5, hbb_5, hbl_5, hb3_5⟩ := hR5
      have hF5 := hF.tr hFc5
      subst hv5
      show J X mX8_colourings d kc ks 35 [some (.ref 19), some (.int (nI q1)), some (.int c), some (.int e)] [.int (nI 1)] w5 _
      refine J_if_eqN (pc := 35) (tgt := 40) dX8_colourings_35 (by decide) (by decide) (fun h => absurd h (by decide)) (fun _ => ?_)
      refine J_iconst (pc := 38) (v := nI 0) dX8_colourings_38 (by decide) ?_
      exact J_iret (pc := 39) dX8_colourings_39 rfl ⟨trivial, ⟨rw, nx, b, bt, kn, en, nI (tW 1 0), ⟨h19_5, h20_5, h21_5, h22_5, hbb_5, hbl_5, hb3_5⟩, hF5, gr, gx, (by first | assumption | exact KX_i (by assumption) (by omega) (by first | rfl | assumption))⟩⟩
    · refine J_iload_n (pc := 13) dX8_colourings_13 rfl rfl ?_
      refine J_iconst (pc := 14) (v := nI 3) dX8_colourings_14 (by decide) ?_
      refine J_icmp_gt (pc := 15) (tgt := 27) dX8_colourings_15 (by decide) (fun ht6 => ?_) (fun hf7 => ?_)
      · refine J_iconst (pc := 27) (v := nI 1) dX8_colourings_27 (by decide) ?_
        refine J_goto (pc := 28) (tgt := 32) dX8_colourings_28 (by decide) ?_
        refine J_callV0 (pc := 32) (M := mX8_colourings) (as := [.int (nI 1)]) dX8_colourings_32 fw_X8_isThrown_ fl_X8_105 fm_X8_isThrown_ fe_X8_isThrown_ h19 (by decide) rfl rfl rfl (c_X8_isThrown_ hs (d := d - 1) (Nat.le_trans (by decide) hdm) (w := w) (n := n) (mv := mv) (rw := rw) (nx := nx) (b := b) (bt := bt) (kn := kn) (en := en) (dn := dn) (rf := rf) (kk := kk) (th := th) ⟨h19, h20, h21, h22, hbb, hbl, hb3⟩ hn1 hn2 gm gr gx 1 (by first | assumption | omega) (kc := 0) (ks := 0)) hdp (st := []) (Nat.le_of_ble_eq_true rfl) rfl (kr_I fun v8 w8 hv8 hw8 => ?_) kx_I
        obtain ⟨hR8, hFc8⟩ := hw8
        obtain ⟨h19_8, h20_8, h21_8, h22_8, hbb_8, hbl_8, hb3_8⟩ := hR8
        have hF8 := hF.tr hFc8
        subst hv8
        show J X mX8_colourings d kc ks 35 [some (.ref 19), some (.int (nI q1)), some (.int c), some (.int e)] [.int (nI 1)] w8 _
        refine J_if_eqN (pc := 35) (tgt := 40) dX8_colourings_35 (by decide) (by decide) (fun h => absurd h (by decide)) (fun _ => ?_)
        refine J_iconst (pc := 38) (v := nI 0) dX8_colourings_38 (by decide) ?_
        exact J_iret (pc := 39) dX8_colourings_39 rfl ⟨trivial, ⟨rw, nx, b, bt, kn, en, nI (tW 1 0), ⟨h19_8, h20_8, h21_8, h22_8, hbb_8, hbl_8, hb3_8⟩, hF8, gr, gx, (by first | assumption | exact KX_i (by assumption) (by omega) (by first | rfl | assumption))⟩⟩
      · refine J_iload_n (pc := 18) dX8_colourings_18 rfl rfl ?_
        refine J_if_lt (pc := 19) (tgt := 27) dX8_colourings_19 (by decide) (fun ht9 => ?_) (fun hf10 => ?_)
        · refine J_iconst (pc := 27) (v := nI 1) dX8_colourings_27 (by decide) ?_
          refine J_goto (pc := 28) (tgt := 32) dX8_colourings_28 (by decide) ?_
          refine J_callV0 (pc := 32) (M := mX8_colourings) (as := [.int (nI 1)]) dX8_colourings_32 fw_X8_isThrown_ fl_X8_105 fm_X8_isThrown_ fe_X8_isThrown_ h19 (by decide) rfl rfl rfl (c_X8_isThrown_ hs (d := d - 1) (Nat.le_trans (by decide) hdm) (w := w) (n := n) (mv := mv) (rw := rw) (nx := nx) (b := b) (bt := bt) (kn := kn) (en := en) (dn := dn) (rf := rf) (kk := kk) (th := th) ⟨h19, h20, h21, h22, hbb, hbl, hb3⟩ hn1 hn2 gm gr gx 1 (by first | assumption | omega) (kc := 0) (ks := 0)) hdp (st := []) (Nat.le_of_ble_eq_true rfl) rfl (kr_I fun v11 w11 hv11 hw11 => ?_) kx_I
          obtain ⟨hR11, hFc11⟩ := hw11
          obtain ⟨h19_11, h20_11, h21_11, h22_11, hbb_11, hbl_11, hb3_11⟩ := hR11
          have hF11 := hF.tr hFc11
          subst hv11
          show J X mX8_colourings d kc ks 35 [some (.ref 19), some (.int (nI q1)), some (.int c), some (.int e)] [.int (nI 1)] w11 _
          refine J_if_eqN (pc := 35) (tgt := 40) dX8_colourings_35 (by decide) (by decide) (fun h => absurd h (by decide)) (fun _ => ?_)
          refine J_iconst (pc := 38) (v := nI 0) dX8_colourings_38 (by decide) ?_
          exact J_iret (pc := 39) dX8_colourings_39 rfl ⟨trivial, ⟨rw, nx, b, bt, kn, en, nI (tW 1 0), ⟨h19_11, h20_11, h21_11, h22_11, hbb_11, hbl_11, hb3_11⟩, hF11, gr, gx, (by first | assumption | exact KX_i (by assumption) (by omega) (by first | rfl | assumption))⟩⟩
        · refine J_iload_n (pc := 22) dX8_colourings_22 rfl rfl ?_
          refine J_iconst (pc := 23) (v := nI 1) dX8_colourings_23 (by decide) ?_
          refine J_icmp_le (pc := 24) (tgt := 31) dX8_colourings_24 (by decide) (fun ht12 => ?_) (fun hf13 => ?_)
          · refine J_iconst (pc := 31) (v := nI 0) dX8_colourings_31 (by decide) ?_
            refine J_callV0 (pc := 32) (M := mX8_colourings) (as := [.int (nI 0)]) dX8_colourings_32 fw_X8_isThrown_ fl_X8_105 fm_X8_isThrown_ fe_X8_isThrown_ h19 (by decide) rfl rfl rfl (c_X8_isThrown_ hs (d := d - 1) (Nat.le_trans (by decide) hdm) (w := w) (n := n) (mv := mv) (rw := rw) (nx := nx) (b := b) (bt := bt) (kn := kn) (en := en) (dn := dn) (rf := rf) (kk := kk) (th := th) ⟨h19, h20, h21, h22, hbb, hbl, hb3⟩ hn1 hn2 gm gr gx 0 (by first | assumption | omega) (kc := 0) (ks := 0)) hdp (st := []) (Nat.le_of_ble_eq_true rfl) rfl (kr_I fun v14 w14 hv14 hw14 => ?_) kx_I
            obtain ⟨hR14, hFc14⟩ := hw14
            obtain ⟨h19_14, h20_14, h21_14, h22_14, hbb_14, hbl_14, hb3_14⟩ := hR14
            have hF14 := hF.tr hFc14
            subst hv14
            show J X mX8_colourings d kc ks 35 [some (.ref 19), some (.int (nI q1)), some (.int c), some (.int e)] [.int (nI 0)] w14 _
            refine J_if_eqN (pc := 35) (tgt := 40) dX8_colourings_35 (by decide) (by decide) (fun _ => ?_) (fun h => absurd h (by decide))
            obtain ⟨k15, hk15a, hk15b, rfl⟩ := nI_btw (x := c) (a := 1) (b := 3) (Int32.not_lt.mp (by assumption)) (Int32.not_lt.mp (by assumption)) (by omega) (by omega)
            refine J_iload_n (pc := 40) dX8_colourings_40 rfl rfl ?_
            refine J_if_ne (pc := 41) (tgt := 53) dX8_colourings_41 (by decide) (fun ht16 => ?_) (fun hf17 => ?_)
            · refine J_aload_n (pc := 53) dX8_colourings_53 rfl rfl rfl ?_
              refine J_iload_n (pc := 54) dX8_colourings_54 rfl rfl ?_
              refine J_iload_n (pc := 55) dX8_colourings_55 rfl rfl ?_
              refine J_callV (pc := 56) (M := mX8_colourings) (as := [.int (nI q1), .int (nI k15)]) dX8_colourings_56 fw_X8_oneByOne fl_X8_200 fm_X8_oneByOne fe_X8_oneByOne h19_14 (by decide) rfl rfl rfl (c_X8_oneByOne hs (d := d - 1) (Nat.le_trans (by decide) hdm) (w := w14) (n := n) (mv := mv) (rw := rw) (nx := nx) (b := b) (bt := bt) (kn := kn) (en := en) (dn := dn) (rf := rf) (kk := kk) (th := nI (tW 0 0)) ⟨h19_14, h20_14, h21_14, h22_14, hbb_14, hbl_14, hb3_14⟩ hn1 hn2 gm gr gx q1 k15 (by first | assumption | omega) (by first | assumption | omega) (by first | assumption | omega) (by first | assumption | omega) (kc := 2) (ks := 4374) (Nat.le_refl _) (Nat.le_refl _)) hdp (by omega) (by omega) (st := []) (Nat.le_of_ble_eq_true rfl) rfl (kr_I fun v18 w18 hv18 hw18 => ?_) kx_I
              obtain ⟨nx18, hR18, hFc18, hgnx18⟩ := hw18
              obtain ⟨h19_18, h20_18, h21_18, h22_18, hbb_18, hbl_18, hb3_18⟩ := hR18
              have hF18 := hF14.tr hFc18
              exact J_iret (pc := 59) dX8_colourings_59 rfl ⟨trivial, ⟨rw, nx18, b, bt, kn, en, nI (tW 0 0), ⟨h19_18, h20_18, h21_18, h22_18, hbb_18, hbl_18, hb3_18⟩, hF18, gr, hgnx18, (by first | assumption | exact KX_i (by assumption) (by omega) (by first | rfl | assumption))⟩⟩
            · refine J_aload_n (pc := 44) dX8_colourings_44 rfl rfl rfl ?_
              refine J_iload_n (pc := 45) dX8_colourings_45 rfl rfl ?_
              refine J_iload_n (pc := 46) dX8_colourings_46 rfl rfl ?_
              refine J_callV (pc := 47) (M := mX8_colourings) (as := [.int (nI q1), .int (nI k15)]) dX8_colourings_47 fw_X8_byThoseThatStay fl_X8_197 fm_X8_byThoseThatStay fe_X8_byThoseThatStay h19_14 (by decide) rfl rfl rfl (c_X8_byThoseThatStay hs (d := d - 1) (Nat.le_trans (by decide) hdm) (w := w14) (n := n) (mv := mv) (rw := rw) (nx := nx) (b := b) (bt := bt) (kn := kn) (en := en) (dn := dn) (rf := rf) (kk := kk) (th := nI (tW 0 0)) ⟨h19_14, h20_14, h21_14, h22_14, hbb_14, hbl_14, hb3_14⟩ hn1 hn2 gm gr gx q1 (nI k15) (by first | assumption | omega) (by first | assumption | omega) (by first | assumption | omega) (kc := 13) (ks := 2054) (Nat.le_refl _) (Nat.le_refl _)) hdp (by omega) (by omega) (st := []) (Nat.le_of_ble_eq_true rfl) rfl (kr_I fun v19 w19 hv19 hw19 => ?_) kx_I
              obtain ⟨rw19, nx19, b19, bt19, kn19, en19, hR19, hFc19, hgrw19, hgnx19, hp19_0, hp19_1⟩ := hw19
              obtain ⟨h19_19, h20_19, h21_19, h22_19, hbb_19, hbl_19, hb3_19⟩ := hR19
              have qd19 := hFc19.2.1
              have hF19 := hF14.tr hFc19
              refine J_goto (pc := 50) (tgt := 59) dX8_colourings_50 (by decide) ?_
              exact J_iret (pc := 59) dX8_colourings_59 rfl ⟨trivial, ⟨rw19, nx19, b19, bt19, kn19, en19, nI (tW 0 0), ⟨h19_19, h20_19, h21_19, h22_19, hbb_19, hbl_19, hb3_19⟩, hF19, hgrw19, hgnx19, (by first | assumption | exact KX_i (by assumption) (by omega) (by first | rfl | assumption))⟩⟩
          · refine J_iconst (pc := 27) (v := nI 1) dX8_colourings_27 (by decide) ?_
            refine J_goto (pc := 28) (tgt := 32) dX8_colourings_28 (by decide) ?_
            refine J_callV0 (pc := 32) (M := mX8_colourings) (as := [.int (nI 1)]) dX8_colourings_32 fw_X8_isThrown_ fl_X8_105 fm_X8_isThrown_ fe_X8_isThrown_ h19 (by decide) rfl rfl rfl (c_X8_isThrown_ hs (d := d - 1) (Nat.le_trans (by decide) hdm) (w := w) (n := n) (mv := mv) (rw := rw) (nx := nx) (b := b) (bt := bt) (kn := kn) (en := en) (dn := dn) (rf := rf) (kk := kk) (th := th) ⟨h19, h20, h21, h22, hbb, hbl, hb3⟩ hn1 hn2 gm gr gx 1 (by first | assumption | omega) (kc := 0) (ks := 0)) hdp (st := []) (Nat.le_of_ble_eq_true rfl) rfl (kr_I fun v20 w20 hv20 hw20 => ?_) kx_I
            obtain ⟨hR20, hFc20⟩ := hw20
            obtain ⟨h19_20, h20_20, h21_20, h22_20, hbb_20, hbl_20, hb3_20⟩ := hR20
            have hF20 := hF.tr hFc20
            subst hv20
            show J X mX8_colourings d kc ks 35 [some (.ref 19), some (.int (nI q1)), some (.int c), some (.int e)] [.int (nI 1)] w20 _
            refine J_if_eqN (pc := 35) (tgt := 40) dX8_colourings_35 (by decide) (by decide) (fun h => absurd h (by decide)) (fun _ => ?_)
            refine J_iconst (pc := 38) (v := nI 0) dX8_colourings_38 (by decide) ?_
            exact J_iret (pc := 39) dX8_colourings_39 rfl ⟨trivial, ⟨rw, nx, b, bt, kn, en, nI (tW 1 0), ⟨h19_20, h20_20, h21_20, h22_20, hbb_20, hbl_20, hb3_20⟩, hF20, gr, gx, (by first | assumption | exact KX_i (by assumption) (by omega) (by first | rfl | assumption))⟩⟩
set_option maxRecDepth 100000 in
set_option maxHeartbeats 40000000 in
theorem c_X8_isPartNow {X : jX} (hs : X.1.stackTraces = false) {d : Nat} (hd : 5 ≤ d) {n : Nat} {mv rw nx : Nat → Nat} {b : Nat} {bt : List Int32} {kn en dn rf kk th : Int32} {w : List jC} (hR : RM n mv rw nx b bt kn en dn rf kk th w) (hn1 : 2 ≤ n) (hn2 : n ≤ 7) (gm : ∀ i, mv i < 7) (gr : ∀ i, rw i < 7) (gx : ∀ i, nx i < 7) (s : Nat) (e : Nat) (hy0 : s < 64) (hy1 : e < 64) (hy2 : PM n mv) (hy3 : KX n mv kn bt) {kc ks : Nat} (hkc : 78 ≤ kc) (hks : 12324 ≤ ks) : jMet X mX8_isPartNow d kc ks [.ref 19, .int (nI s), .int (nI e)] w (pI (fun v => ∃ k : Nat, v = nI k ∧ k < 2) (fun w' => ∃ (rw' : Nat → Nat), ∃ (nx' : Nat → Nat), ∃ (b' : Nat), ∃ (bt' : List Int32), ∃ (kn' : Int32), ∃ (en' : Int32), RM n mv rw' nx' b' bt' kn' en' dn rf kk th w' ∧ FR b b' w w' ∧ (∀ i, rw' i < 7) ∧ (∀ i, nx' i < 7) ∧ KX n mv kn' bt')) := by
  refine jMet_of hs (by decide +kernel) (Nat.le_of_ble_eq_true rfl) (L := [some (.ref 19), some (.int (nI s)), some (.int (nI e)), none, none]) rfl ?_
  have hdm : 4 ≤ d - 1 := by omega
  have hdp : d - 1 + 1 ≤ d := by omega
  have hfc := fc_7 hn2
  have hfp := fc_pos n
  obtain ⟨h19, h20, h21, h22, hbb, hbl, hb3⟩ := hR
  have hF : FR b b w w := FR.rf
  refine J_iconst (pc := 0) (v := nI 1) dX8_isPartNow_0 (by decide) ?_
  refine J_istore_n (pc := 1) dX8_isPartNow_1 rfl (by decide) rfl ?_
  show J X mX8_isPartNow d kc ks 2 [some (.ref 19), some (.int (nI s)), some (.int (nI e)), some (.int (nI 1)), none] [] w _
  refine J_iconst (pc := 2) (v := nI 0) dX8_isPartNow_2 (by decide) ?_
  refine J_istore (pc := 3) dX8_isPartNow_3 (by decide) rfl ?_
  show J X mX8_isPartNow d kc ks 5 [some (.ref 19), some (.int (nI s)), some (.int (nI e)), some (.int (nI 1)), some (.int (nI 0))] [] w _
  have lp5_1 : ∀ (fuel : Nat) (kc2 ks3 : Nat) (w4 : List jC) (rw_5 : Nat → Nat) (nx_5 : Nat → Nat) (b_5 : Nat) (bt_5 : List Int32) (kn_5 : Int32) (en_5 : Int32) (y3 : Nat) (c4 : Nat), (RM n mv rw_5 nx_5 b_5 bt_5 kn_5 en_5 dn rf kk th w4) → (FR b b_5 w w4) → (∀ i, rw_5 i < 7) → (∀ i, nx_5 i < 7) → ((6 - c4) * 13 ≤ kc2) → ((6 - c4) * 2054 ≤ ks3) → (y3 < 2) → (KX n mv kn_5 bt_5) → (c4 ≤ 6) → (6 - c4 < fuel) → J X mX8_isPartNow d kc2 ks3 5 [some (.ref 19), some (.int (nI s)), some (.int (nI e)), some (.int (nI y3)), some (.int (nI c4))] [] w4 (pI (fun v => ∃ k : Nat, v = nI k ∧ k < 2) (fun w' => ∃ (rw' : Nat → Nat), ∃ (nx' : Nat → Nat), ∃ (b' : Nat), ∃ (bt' : List Int32), ∃ (kn' : Int32), ∃ (en' : Int32), RM n mv rw' nx' b' bt' kn' en' dn rf kk th w' ∧ FR b b' w w' ∧ (∀ i, rw' i < 7) ∧ (∀ i, nx' i < 7) ∧ KX n mv kn' bt')) := by
    intro fuellp5_1
    induction fuellp5_1 with
    | zero => intros; omega
    | succ fuellp5_1 ihlp5_1 =>
      intro kc2 ks3 w4 rw_5 nx_5 b_5 bt_5 kn_5 en_5 y3 c4 hR5 hF6 gr7 gx8 hr9 hr10 hv5_0 hv5_1 hv5_2 hf11
      obtain ⟨h19_12, h20_12, h21_12, h22_12, hb_12, hbl_12, hb3_12⟩ := hR5
      refine J_iload (pc := 5) dX8_isPartNow_5 rfl ?_
      refine J_bipush (pc := 7) (v := nI 6) dX8_isPartNow_7 (by decide) ?_
      refine J_icmp_geN (pc := 9) (tgt := 48) dX8_isPartNow_9 (by decide) (by omega) (by omega) (fun ht13 => ?_) (fun hf14 => ?_)
      · refine J_iload_n (pc := 48) dX8_isPartNow_48 rfl rfl ?_
        exact J_zret (pc := 49) dX8_isPartNow_49 rfl (nar_b (by first | decide | omega)) ⟨⟨y3, rfl, by omega⟩, ⟨rw_5, nx_5, b_5, bt_5, kn_5, en_5, ⟨h19_12, h20_12, h21_12, h22_12, hb_12, hbl_12, hb3_12⟩, hF6, gr7, gx8, (by first | assumption | exact KX_i (by assumption) (by omega) (by first | rfl | assumption))⟩⟩
      · refine J_iload_n (pc := 12) dX8_isPartNow_12 rfl rfl ?_
        refine J_iload (pc := 13) dX8_isPartNow_13 rfl ?_
        refine J_ishrN (pc := 15) dX8_isPartNow_15 (by omega) (by omega) ?_
        refine J_iconst (pc := 16) (v := nI 1) dX8_isPartNow_16 (by decide) ?_
        have hm15 := Nat.mod_lt (s / 2 ^ c4) (show 0 < 2 ^ 1 by decide)
        have hm16 := Nat.div_le_self s (2 ^ c4)
        refine J_iandN (pc := 17) 1 dX8_isPartNow_17 (by omega) (by decide) ?_
        refine J_iconst (pc := 18) (v := nI 1) dX8_isPartNow_18 (by decide) ?_
        refine J_icmp_neN (pc := 19) (tgt := 42) dX8_isPartNow_19 (by decide) (by omega) (by omega) (fun ht17 => ?_) (fun hf18 => ?_)
        · refine J_iincN (pc := 42) (b := 1) dX8_isPartNow_42 rfl (by decide) (by decide) rfl ?_
          show J X mX8_isPartNow d kc2 ks3 45 [some (.ref 19), some (.int (nI s)), some (.int (nI e)), some (.int (nI y3)), some (.int (nI (c4 + 1)))] [] w4 _
          refine J_goto (pc := 45) (tgt := 5) dX8_isPartNow_45 (by decide) ?_
          exact J_sub (L' := [some (.ref 19), some (.int (nI s)), some (.int (nI e)), some (.int (nI y3)), some (.int (nI (c4 + 1)))]) ⟨rfl, ⟨rfl, ⟨rfl, ⟨rfl, ⟨rfl, trivial⟩⟩⟩⟩⟩ (ihlp5_1 _ _ w4 rw_5 nx_5 b_5 bt_5 kn_5 en_5 y3 (c4 + 1) ⟨h19_12, h20_12, h21_12, h22_12, hb_12, hbl_12, hb3_12⟩ hF6 gr7 gx8 (by omega) (by omega) (by first | assumption | omega) (by first | assumption | exact KX_i (by assumption) (by omega) (by first | rfl | assumption)) (by first | assumption | omega) (by omega))
        · refine J_iload_n (pc := 22) dX8_isPartNow_22 rfl rfl ?_
          refine J_if_eqN (pc := 23) (tgt := 40) dX8_isPartNow_23 (by decide) (by omega) (fun ht19 => ?_) (fun hf20 => ?_)
          · refine J_iconst (pc := 40) (v := nI 0) dX8_isPartNow_40 (by decide) ?_
            refine J_istore_n (pc := 41) dX8_isPartNow_41 rfl (by decide) rfl ?_
            show J X mX8_isPartNow d kc2 ks3 42 [some (.ref 19), some (.int (nI s)), some (.int (nI e)), some (.int (nI 0)), some (.int (nI c4))] [] w4 _
            refine J_iincN (pc := 42) (b := 1) dX8_isPartNow_42 rfl (by decide) (by decide) rfl ?_
            show J X mX8_isPartNow d kc2 ks3 45 [some (.ref 19), some (.int (nI s)), some (.int (nI e)), some (.int (nI 0)), some (.int (nI (c4 + 1)))] [] w4 _
            refine J_goto (pc := 45) (tgt := 5) dX8_isPartNow_45 (by decide) ?_
            exact J_sub (L' := [some (.ref 19), some (.int (nI s)), some (.int (nI e)), some (.int (nI 0)), some (.int (nI (c4 + 1)))]) ⟨rfl, ⟨rfl, ⟨rfl, ⟨rfl, ⟨rfl, trivial⟩⟩⟩⟩⟩ (ihlp5_1 _ _ w4 rw_5 nx_5 b_5 bt_5 kn_5 en_5 0 (c4 + 1) ⟨h19_12, h20_12, h21_12, h22_12, hb_12, hbl_12, hb3_12⟩ hF6 gr7 gx8 (by omega) (by omega) (by first | assumption | omega) (by first | assumption | exact KX_i (by assumption) (by omega) (by first | rfl | assumption)) (by first | assumption | omega) (by omega))
          · refine J_aload_n (pc := 26) dX8_isPartNow_26 rfl rfl rfl ?_
            refine J_iload_n (pc := 27) dX8_isPartNow_27 rfl rfl ?_
            refine J_iload (pc := 28) dX8_isPartNow_28 rfl ?_
            refine J_callV (pc := 30) (M := mX8_isPartNow) (as := [.int (nI e), .int (nI c4)]) dX8_isPartNow_30 fw_X8_isInNow fl_X8_185 fm_X8_isInNow fe_X8_isInNow h19_12 (by decide) rfl rfl rfl (c_X8_isInNow hs (d := d - 1) (Nat.le_trans (by decide) hdm) (w := w4) (n := n) (mv := mv) (rw := rw_5) (nx := nx_5) (b := b_5) (bt := bt_5) (kn := kn_5) (en := en_5) (dn := dn) (rf := rf) (kk := kk) (th := th) ⟨h19_12, h20_12, h21_12, h22_12, hb_12, hbl_12, hb3_12⟩ hn1 hn2 gm gr7 gx8 e c4 (by first | assumption | omega) (by first | assumption | omega) (by first | assumption | omega) (by first | assumption | omega) (kc := 13) (ks := 2054) (Nat.le_refl _) (Nat.le_refl _)) hdp (by omega) (by omega) (st := []) (Nat.le_of_ble_eq_true rfl) rfl (kr_I fun v21 w21 hv21 hw21 => ?_) kx_I
            obtain ⟨rw21, nx21, b21, bt21, kn21, en21, hR21, hFc21, hgrw21, hgnx21, hp21_0, hp21_1⟩ := hw21
            obtain ⟨h19_21, h20_21, h21_21, h22_21, hbb_21, hbl_21, hb3_21⟩ := hR21
            have qd21 := hFc21.2.1
            have hF21 := hF6.tr hFc21
            obtain ⟨k21, rfl, hk21⟩ := hv21
            refine J_if_eqN (pc := 33) (tgt := 40) dX8_isPartNow_33 (by decide) (by omega) (fun ht22 => ?_) (fun hf23 => ?_)
            · refine J_iconst (pc := 40) (v := nI 0) dX8_isPartNow_40 (by decide) ?_
              refine J_istore_n (pc := 41) dX8_isPartNow_41 rfl (by decide) rfl ?_
              show J X mX8_isPartNow d (kc2 - 13) (ks3 - 2054) 42 [some (.ref 19), some (.int (nI s)), some (.int (nI e)), some (.int (nI 0)), some (.int (nI c4))] [] w21 _
              refine J_iincN (pc := 42) (b := 1) dX8_isPartNow_42 rfl (by decide) (by decide) rfl ?_
              show J X mX8_isPartNow d (kc2 - 13) (ks3 - 2054) 45 [some (.ref 19), some (.int (nI s)), some (.int (nI e)), some (.int (nI 0)), some (.int (nI (c4 + 1)))] [] w21 _
              refine J_goto (pc := 45) (tgt := 5) dX8_isPartNow_45 (by decide) ?_
              exact J_sub (L' := [some (.ref 19), some (.int (nI s)), some (.int (nI e)), some (.int (nI 0)), some (.int (nI (c4 + 1)))]) ⟨rfl, ⟨rfl, ⟨rfl, ⟨rfl, ⟨rfl, trivial⟩⟩⟩⟩⟩ (ihlp5_1 _ _ w21 rw21 nx21 b21 bt21 kn21 en21 0 (c4 + 1) ⟨h19_21, h20_21, h21_21, h22_21, hbb_21, hbl_21, hb3_21⟩ hF21 hgrw21 hgnx21 (by omega) (by omega) (by first | assumption | omega) (by first | assumption | exact KX_i (by assumption) (by omega) (by first | rfl | assumption)) (by first | assumption | omega) (by omega))
            · refine J_iconst (pc := 36) (v := nI 1) dX8_isPartNow_36 (by decide) ?_
              refine J_goto (pc := 37) (tgt := 41) dX8_isPartNow_37 (by decide) ?_
              refine J_istore_n (pc := 41) dX8_isPartNow_41 rfl (by decide) rfl ?_
              show J X mX8_isPartNow d (kc2 - 13) (ks3 - 2054) 42 [some (.ref 19), some (.int (nI s)), some (.int (nI e)), some (.int (nI 1)), some (.int (nI c4))] [] w21 _
              refine J_iincN (pc := 42) (b := 1) dX8_isPartNow_42 rfl (by decide) (by decide) rfl ?_
              show J X mX8_isPartNow d (kc2 - 13) (ks3 - 2054) 45 [some (.ref 19), some (.int (nI s)), some (.int (nI e)), some (.int (nI 1)), some (.int (nI (c4 + 1)))] [] w21 _
              refine J_goto (pc := 45) (tgt := 5) dX8_isPartNow_45 (by decide) ?_
              exact J_sub (L' := [some (.ref 19), some (.int (nI s)), some (.int (nI e)), some (.int (nI 1)), some (.int (nI (c4 + 1)))]) ⟨rfl, ⟨rfl, ⟨rfl, ⟨rfl, ⟨rfl, trivial⟩⟩⟩⟩⟩ (ihlp5_1 _ _ w21 rw21 nx21 b21 bt21 kn21 en21 1 (c4 + 1) ⟨h19_21, h20_21, h21_21, h22_21, hbb_21, hbl_21, hb3_21⟩ hF21 hgrw21 hgnx21 (by omega) (by omega) (by first | assumption | omega) (by first | assumption | exact KX_i (by assumption) (by omega) (by first | rfl | assumption)) (by first | assumption | omega) (by omega))
  exact J_sub (L' := [some (.ref 19), some (.int (nI s)), some (.int (nI e)), some (.int (nI 1)), some (.int (nI 0))]) ⟨rfl, ⟨rfl, ⟨rfl, ⟨rfl, ⟨rfl, trivial⟩⟩⟩⟩⟩ (lp5_1 _ _ _ w rw nx b bt kn en 1 0 ⟨h19, h20, h21, h22, hbb, hbl, hb3⟩ hF gr gx (by omega) (by omega) (by first | assumption | omega) (by assumption) (by first | assumption | omega) (Nat.lt_succ_self _))
set_option maxRecDepth 100000 in
set_option maxHeartbeats 40000000 in
theorem c_X8_isPart {X : jX} (hs : X.1.stackTraces = false) {d : Nat} (hd : 6 ≤ d) {n : Nat} {mv rw nx : Nat → Nat} {b : Nat} {bt : List Int32} {kn en dn rf kk th : Int32} {w : List jC} (hR : RM n mv rw nx b bt kn en dn rf kk th w) (hn1 : 2 ≤ n) (hn2 : n ≤ 7) (gm : ∀ i, mv i < 7) (gr : ∀ i, rw i < 7) (gx : ∀ i, nx i < 7) (s : Int32) (e : Int32) (hy0 : PM n mv) (hy1 : KX n mv kn bt) {kc ks : Nat} (hkc : 78 ≤ kc) (hks : 12324 ≤ ks) : jMet X mX8_isPart d kc ks [.ref 19, .int s, .int e] w (pI (fun v => ∃ k : Nat, v = nI k ∧ k < 2) (fun w' => ∃ (rw' : Nat → Nat), ∃ (nx' : Nat → Nat), ∃ (b' : Nat), ∃ (bt' : List Int32), ∃ (kn' : Int32), ∃ (en' : Int32), ∃ (th' : Int32), RM n mv rw' nx' b' bt' kn' en' dn rf kk th' w' ∧ FR b b' w w' ∧ (∀ i, rw' i < 7) ∧ (∀ i, nx' i < 7) ∧ KX n mv kn' bt')) := by
  refine jMet_of hs (by decide +kernel) (Nat.le_of_ble_eq_true rfl) (L := [some (.ref 19), some (.int s), some (.int e)]) rfl ?_
  have hdm : 5 ≤ d - 1 := by omega
  have hdp : d - 1 + 1 ≤ d := by omega
  have hfc := fc_7 hn2
  have hfp := fc_pos n
  obtain ⟨h19, h20, h21, h22, hbb, hbl, hb3⟩ := hR
  have hF : FR b b w w := FR.rf
  refine J_aload_n (pc := 0) dX8_isPart_0 rfl rfl rfl ?_
  refine J_iload_n (pc := 1) dX8_isPart_1 rfl rfl ?_
  refine J_callS0 (pc := 2) (M := mX8_isPart) (as := [.int s]) dX8_isPart_2 fw_X8_isSet fl_X8_134 fs_X8_isSet rfl (c_X8_isSet hs (d := d - 1) (Nat.le_trans (by decide) hdm) (w := w) s (kc := 0) (ks := 0)) hdp (st := [.ref 19]) (Nat.le_of_ble_eq_true rfl) rfl (kr_P fun v1 hv1 => ?_) kx_I
  rcases hv1 with ⟨rfl, hk1_0⟩ | ⟨q1, rfl, hk1_0, rfl⟩
  · refine J_if_eqN (pc := 5) (tgt := 15) dX8_isPart_5 (by decide) (by decide) (fun _ => ?_) (fun h => absurd h (by decide))
    refine J_iconst (pc := 15) (v := nI 1) dX8_isPart_15 (by decide) ?_
    refine J_goto (pc := 16) (tgt := 20) dX8_isPart_16 (by decide) ?_
    refine J_callV0 (pc := 20) (M := mX8_isPart) (as := [.int (nI 1)]) dX8_isPart_20 fw_X8_isThrown_ fl_X8_105 fm_X8_isThrown_ fe_X8_isThrown_ h19 (by decide) rfl rfl rfl (c_X8_isThrown_ hs (d := d - 1) (Nat.le_trans (by decide) hdm) (w := w) (n := n) (mv := mv) (rw := rw) (nx := nx) (b := b) (bt := bt) (kn := kn) (en := en) (dn := dn) (rf := rf) (kk := kk) (th := th) ⟨h19, h20, h21, h22, hbb, hbl, hb3⟩ hn1 hn2 gm gr gx 1 (by first | assumption | omega) (kc := 0) (ks := 0)) hdp (st := []) (Nat.le_of_ble_eq_true rfl) rfl (kr_I fun v2 w2 hv2 hw2 => ?_) kx_I
    obtain ⟨hR2, hFc2⟩ := hw2
    obtain ⟨h19_2, h20_2, h21_2, h22_2, hbb_2, hbl_2, hb3_2⟩ := hR2
    have hF2 := hF.tr hFc2
    subst hv2
    show J X mX8_isPart d kc ks 23 [some (.ref 19), some (.int s), some (.int e)] [.int (nI 1)] w2 _
    refine J_if_neN (pc := 23) (tgt := 39) dX8_isPart_23 (by decide) (by decide) (fun _ => ?_) (fun h => absurd h (by decide))
    refine J_iconst (pc := 39) (v := nI 0) dX8_isPart_39 (by decide) ?_
    exact J_zret (pc := 40) dX8_isPart_40 rfl (nar_b (by first | decide | omega)) ⟨⟨0, rfl, by omega⟩, ⟨rw, nx, b, bt, kn, en, nI (tW 1 0), ⟨h19_2, h20_2, h21_2, h22_2, hbb_2, hbl_2, hb3_2⟩, hF2, gr, gx, (by first | assumption | exact KX_i (by assumption) (by omega) (by first | rfl | assumption))⟩⟩
  · refine J_if_eqN (pc := 5) (tgt := 15) dX8_isPart_5 (by decide) (by decide) (fun h => absurd h (by decide)) (fun _ => ?_)
    refine J_iload_n (pc := 8) dX8_isPart_8 rfl rfl ?_
    refine J_callS0 (pc := 9) (M := mX8_isPart) (as := [.int e]) dX8_isPart_9 fw_X8_isSet fl_X8_134 fs_X8_isSet rfl (c_X8_isSet hs (d := d - 1) (Nat.le_trans (by decide) hdm) (w := w) e (kc := 0) (ks := 0)) hdp (st := [.ref 19]) (Nat.le_of_ble_eq_true rfl) rfl (kr_P fun v3 hv3 => ?_) kx_I
    rcases hv3 with ⟨rfl, hk3_0⟩ | ⟨q3, rfl, hk3_0, rfl⟩
    · refine J_if_neN (pc := 12) (tgt := 19) dX8_isPart_12 (by decide) (by decide) (fun h => absurd h (by decide)) (fun _ => ?_)
      refine J_iconst (pc := 15) (v := nI 1) dX8_isPart_15 (by decide) ?_
      refine J_goto (pc := 16) (tgt := 20) dX8_isPart_16 (by decide) ?_
      refine J_callV0 (pc := 20) (M := mX8_isPart) (as := [.int (nI 1)]) dX8_isPart_20 fw_X8_isThrown_ fl_X8_105 fm_X8_isThrown_ fe_X8_isThrown_ h19 (by decide) rfl rfl rfl (c_X8_isThrown_ hs (d := d - 1) (Nat.le_trans (by decide) hdm) (w := w) (n := n) (mv := mv) (rw := rw) (nx := nx) (b := b) (bt := bt) (kn := kn) (en := en) (dn := dn) (rf := rf) (kk := kk) (th := th) ⟨h19, h20, h21, h22, hbb, hbl, hb3⟩ hn1 hn2 gm gr gx 1 (by first | assumption | omega) (kc := 0) (ks := 0)) hdp (st := []) (Nat.le_of_ble_eq_true rfl) rfl (kr_I fun v4 w4 hv4 hw4 => ?_) kx_I
      obtain ⟨hR4, hFc4⟩ := hw4
      obtain ⟨h19_4, h20_4, h21_4, h22_4, hbb_4, hbl_4, hb3_4⟩ := hR4
      have hF4 := hF.tr hFc4
      subst hv4
      show J X mX8_isPart d kc ks 23 [some (.ref 19), some (.int (nI q1)), some (.int e)] [.int (nI 1)] w4 _
      refine J_if_neN (pc := 23) (tgt := 39) dX8_isPart_23 (by decide) (by decide) (fun _ => ?_) (fun h => absurd h (by decide))
      refine J_iconst (pc := 39) (v := nI 0) dX8_isPart_39 (by decide) ?_
      exact J_zret (pc := 40) dX8_isPart_40 rfl (nar_b (by first | decide | omega)) ⟨⟨0, rfl, by omega⟩, ⟨rw, nx, b, bt, kn, en, nI (tW 1 0), ⟨h19_4, h20_4, h21_4, h22_4, hbb_4, hbl_4, hb3_4⟩, hF4, gr, gx, (by first | assumption | exact KX_i (by assumption) (by omega) (by first | rfl | assumption))⟩⟩
    · refine J_if_neN (pc := 12) (tgt := 19) dX8_isPart_12 (by decide) (by decide) (fun _ => ?_) (fun h => absurd h (by decide))
      refine J_iconst (pc := 19) (v := nI 0) dX8_isPart_19 (by decide) ?_
      refine J_callV0 (pc := 20) (M := mX8_isPart) (as := [.int (nI 0)]) dX8_isPart_20 fw_X8_isThrown_ fl_X8_105 fm_X8_isThrown_ fe_X8_isThrown_ h19 (by decide) rfl rfl rfl (c_X8_isThrown_ hs (d := d - 1) (Nat.le_trans (by decide) hdm) (w := w) (n := n) (mv := mv) (rw := rw) (nx := nx) (b := b) (bt := bt) (kn := kn) (en := en) (dn := dn) (rf := rf) (kk := kk) (th := th) ⟨h19, h20, h21, h22, hbb, hbl, hb3⟩ hn1 hn2 gm gr gx 0 (by first | assumption | omega) (kc := 0) (ks := 0)) hdp (st := []) (Nat.le_of_ble_eq_true rfl) rfl (kr_I fun v5 w5 hv5 hw5 => ?_) kx_I
      obtain ⟨hR5, hFc5⟩ := hw5
      obtain ⟨h19_5, h20_5, h21_5, h22_5, hbb_5, hbl_5, hb3_5⟩ := hR5
      have hF5 := hF.tr hFc5
      subst hv5
      show J X mX8_isPart d kc ks 23 [some (.ref 19), some (.int (nI q1)), some (.int (nI q3))] [.int (nI 0)] w5 _
      refine J_if_neN (pc := 23) (tgt := 39) dX8_isPart_23 (by decide) (by decide) (fun h => absurd h (by decide)) (fun _ => ?_)
      refine J_aload_n (pc := 26) dX8_isPart_26 rfl rfl rfl ?_
      refine J_iload_n (pc := 27) dX8_isPart_27 rfl rfl ?_
      refine J_iload_n (pc := 28) dX8_isPart_28 rfl rfl ?_
      refine J_callV (pc := 29) (M := mX8_isPart) (as := [.int (nI q1), .int (nI q3)]) dX8_isPart_29 fw_X8_isPartNow fl_X8_209 fm_X8_isPartNow fe_X8_isPartNow h19_5 (by decide) rfl rfl rfl (c_X8_isPartNow hs (d := d - 1) (Nat.le_trans (by decide) hdm) (w := w5) (n := n) (mv := mv) (rw := rw) (nx := nx) (b := b) (bt := bt) (kn := kn) (en := en) (dn := dn) (rf := rf) (kk := kk) (th := nI (tW 0 0)) ⟨h19_5, h20_5, h21_5, h22_5, hbb_5, hbl_5, hb3_5⟩ hn1 hn2 gm gr gx q1 q3 (by first | assumption | omega) (by first | assumption | omega) (by first | assumption | omega) (by first | assumption | omega) (kc := 78) (ks := 12324) (Nat.le_refl _) (Nat.le_refl _)) hdp (by omega) (by omega) (st := []) (Nat.le_of_ble_eq_true rfl) rfl (kr_I fun v6 w6 hv6 hw6 => ?_) kx_I
      obtain ⟨rw6, nx6, b6, bt6, kn6, en6, hR6, hFc6, hgrw6, hgnx6, hp6_0⟩ := hw6
      obtain ⟨h19_6, h20_6, h21_6, h22_6, hbb_6, hbl_6, hb3_6⟩ := hR6
      have qd6 := hFc6.2.1
      have hF6 := hF5.tr hFc6
      obtain ⟨k6, rfl, hk6⟩ := hv6
      refine J_if_eqN (pc := 32) (tgt := 39) dX8_isPart_32 (by decide) (by omega) (fun ht7 => ?_) (fun hf8 => ?_)
      · refine J_iconst (pc := 39) (v := nI 0) dX8_isPart_39 (by decide) ?_
        exact J_zret (pc := 40) dX8_isPart_40 rfl (nar_b (by first | decide | omega)) ⟨⟨0, rfl, by omega⟩, ⟨rw6, nx6, b6, bt6, kn6, en6, nI (tW 0 0), ⟨h19_6, h20_6, h21_6, h22_6, hbb_6, hbl_6, hb3_6⟩, hF6, hgrw6, hgnx6, (by first | assumption | exact KX_i (by assumption) (by omega) (by first | rfl | assumption))⟩⟩
      · refine J_iconst (pc := 35) (v := nI 1) dX8_isPart_35 (by decide) ?_
        refine J_goto (pc := 36) (tgt := 40) dX8_isPart_36 (by decide) ?_
        exact J_zret (pc := 40) dX8_isPart_40 rfl (nar_b (by first | decide | omega)) ⟨⟨1, rfl, by omega⟩, ⟨rw6, nx6, b6, bt6, kn6, en6, nI (tW 0 0), ⟨h19_6, h20_6, h21_6, h22_6, hbb_6, hbl_6, hb3_6⟩, hF6, hgrw6, hgnx6, (by first | assumption | exact KX_i (by assumption) (by omega) (by first | rfl | assumption))⟩⟩
