section
/-! contracts of the reference: rspec4 -/
set_option maxRecDepth 100000 in
set_option maxHeartbeats 40000000 in
theorem c_X8_colourings {X : jX} (hs : X.1.stackTraces = false) {d : Nat} (hd : 5 ≤ d) {n : Nat} {mv rw nx : Nat → Nat} {b : Nat} {bt : List Int32} {kn en dn rf kk th : Int32} {w : List jC} (hR : RM n mv rw nx b bt kn en dn rf kk th w) (hn1 : 2 ≤ n) (hn2 : n ≤ 7) (gm : ∀ i, mv i < 7) (gr : ∀ i, rw i < 7) (gx : ∀ i, nx i < 7) (s : Int32) (c : Int32) (e : Int32) (hy0 : PM n mv) (hy1 : KX n mv kn bt) {kc ks : Nat} (hkc : 15 ≤ kc) (hks : 6428 ≤ ks) : jMet X mX8_colourings d kc ks [.ref 19, .int s, .int c, .int e] w (pI (fun _ => True) (fun w' => ∃ (rw' : Nat → Nat), ∃ (nx' : Nat → Nat), ∃ (b' : Nat), ∃ (bt' : List Int32), ∃ (kn' : Int32), ∃ (en' : Int32), ∃ (th' : Int32), RM n mv rw' nx' b' bt' kn' en' dn rf kk th' w' ∧ FR b b' w w' ∧ (∀ i, rw' i < 7) ∧ (∀ i, nx' i < 7) ∧ KX n mv kn' bt')) := by
  refine jMet_of hs (by decide +kernel) (Nat.le_of_ble_eq_true rfl) (L := [some (.ref 19), some (.int s), some (.int c), some (.int e)]) rfl ?_
  have hdm : 4 ≤ d - 1 := by omega
  have hdp : d - 1 + 1 ≤ d := by omega
  have hfc := fc_7 hn2
  have hfp := fc_pos n
  obtain ⟨h19, h20, h21, h22, hbb, hbl, hb3⟩ := hR
  have hF : FR b b w w := FR.rf
  refine J_aload_n (pc := 0) dX8_colourings_0 rfl rfl rfl ?_
  refine J_iload_n (pc := 1) dX8_colourings_1 rfl rfl ?_
  refine J_callS0 (pc := 2) (M := mX8_colourings) (as := [.int s]) dX8_colourings_2 fw_X8_isSet fl_X8_134 fs_X8_isSet rfl (c_X8_isSet hs (d := d - 1) (Nat.le_trans (by decide) hdm) (w := w) s (kc := 0) (ks := 0)) hdp (st := [.ref 19]) (Nat.le_of_ble_eq_true rfl) rfl (kr_P fun v1 hv1 => ?_) kx_I
  rcases hv1 with ⟨rfl, hk1_0⟩ | ⟨q1, rfl, hk1_0, rfl⟩
  · refine J_if_eqN (pc := 5) (tgt := 27) dX8_colourings_5 (by decide) (by decide) (fun _ => ?_) (fun h => absurd h (by decide))
    refine J_iconst (pc := 27) (v := nI 1) dX8_colourings_27 (by decide) ?_
    refine J_goto (pc := 28) (tgt := 32) dX8_colourings_28 (by decide) ?_
    refine J_callV0 (pc := 32) (M := mX8_colourings) (as := [.int (nI 1)]) dX8_colourings_32 fw_X8_isThrown_ fl_X8_105 fm_X8_isThrown_ fe_X8_isThrown_ h19 (by decide) rfl rfl rfl (c_X8_isThrown_ hs (d := d - 1) (Nat.le_trans (by decide) hdm) (w := w) (n := n) (mv := mv) (rw := rw) (nx := nx) (b := b) (bt := bt) (kn := kn) (en := en) (dn := dn) (rf := rf) (kk := kk) (th := th) ⟨h19, h20, h21, h22, hbb, hbl, hb3⟩ hn1 hn2 gm gr gx 1 (by first | assumption | omega) (kc := 0) (ks := 0)) hdp (st := []) (Nat.le_of_ble_eq_true rfl) rfl (kr_I fun v2 w2 hv2 hw2 => ?_) kx_I
    obtain ⟨hR2, hFc2⟩ := hw2
    obtain ⟨h19_2, h20_2, h21_2, h22_2, hbb_2, hbl_2, hb3_2⟩ := hR2
    have hF2 := hF.tr hFc2
    subst hv2
    show J X mX8_colourings d kc ks 35 [some (.ref 19), some (.int s), some (.int c), some (.int e)] [.int (nI 1)] w2 _
    refine J_if_eqN (pc := 35) (tgt := 40) dX8_colourings_35 (by decide) (by decide) (fun h => absurd h (by decide)) (fun _ => ?_)
    refine J_iconst (pc := 38) (v := nI 0) dX8_colourings_38 (by decide) ?_
    exact J_iret (pc := 39) dX8_colourings_39 rfl ⟨trivial, ⟨rw, nx, b, bt, kn, en, nI (tW 1 0), ⟨h19_2, h20_2, h21_2, h22_2, hbb_2, hbl_2, hb3_2⟩, hF2, gr, gx, (by first | assumption | exact KX_i (by assumption) (by omega) (by first | rfl | assumption))⟩⟩
  · refine J_if_eqN (pc := 5) (tgt := 27) dX8_colourings_5 (by decide) (by decide) (fun h => absurd h (by decide)) (fun _ => ?_)
    refine J_iload_n (pc := 8) dX8_colourings_8 rfl rfl ?_
    refine J_iconst (pc := 9) (v := nI 1) dX8_colourings_9 (by decide) ?_
    refine J_icmp_lt (pc := 10) (tgt := 27) dX8_colourings_10 (by decide) (fun ht3 => ?_) (fun hf4 => ?_)
    · refine J_iconst (pc := 27) (v := nI 1) dX8_colourings_27 (by decide) ?_
      refine J_goto (pc := 28) (tgt := 32) dX8_colourings_28 (by decide) ?_
      refine J_callV0 (pc := 32) (M := mX8_colourings) (as := [.int (nI 1)]) dX8_colourings_32 fw_X8_isThrown_ fl_X8_105 fm_X8_isThrown_ fe_X8_isThrown_ h19 (by decide) rfl rfl rfl (c_X8_isThrown_ hs (d := d - 1) (Nat.le_trans (by decide) hdm) (w := w) (n := n) (mv := mv) (rw := rw) (nx := nx) (b := b) (bt := bt) (kn := kn) (en := en) (dn := dn) (rf := rf) (kk := kk) (th := th) ⟨h19, h20, h21, h22, hbb, hbl, hb3⟩ hn1 hn2 gm gr gx 1 (by first | assumption | omega) (kc := 0) (ks := 0)) hdp (st := []) (Nat.le_of_ble_eq_true rfl) rfl (kr_I fun v5 w5 hv5 hw5 => ?_) kx_I
      obtain ⟨hR5, hFc5⟩ := hw5
      obtain ⟨h19_5, h20_5, h21_5, h22_5, hbb_5, hbl_5, hb3_5⟩ := hR5
      have hF5 := hF.tr hFc5
      subst hv5
      show J X mX8_colourings d kc ks 35 [some (.ref 19), some (.int (nI q1)), some (.int c), some (.int e)] [.int (nI 1)] w5 _
      refine J_if_eqN (pc := 35) (tgt := 40) dX8_colourings_35 (by decide) (by decide) (fun h => absurd h (by decide)) (fun _ => ?_)
      refine J_iconst (pc := 38) (v := nI 0) dX8_colourings_38 (by decide) ?_
      exact J_iret (pc := 39) dX8_colourings_39 rfl ⟨trivial, ⟨rw, nx, b, bt, kn, en, nI (tW 1 0), ⟨h19_5, h20_5, h21_5, h22_5, hbb_5, hbl_5, hb3_5⟩, hF5, gr, gx, (by first | assumption | exact KX_i (by assumption) (by omega) (by first | rfl | assumption))⟩⟩
    · refine J_iload_n (pc := 13) dX8_colourings_13 rfl rfl ?_
      refine J_iconst (pc := 14) (v := nI 3) dX8_colourings_14 (by decide) ?_
      refine J_icmp_gt (pc := 15) (tgt := 27) dX8_colourings_15 (by decide) (fun ht6 => ?_) (fun hf7 => ?_)
      · refine J_iconst (pc := 27) (v := nI 1) dX8_colourings_27 (by decide) ?_
        refine J_goto (pc := 28) (tgt := 32) dX8_colourings_28 (by decide) ?_
        refine J_callV0 (pc := 32) (M := mX8_colourings) (as := [.int (nI 1)]) dX8_colourings_32 fw_X8_isThrown_ fl_X8_105 fm_X8_isThrown_ fe_X8_isThrown_ h19 (by decide) rfl rfl rfl (c_X8_isThrown_ hs (d := d - 1) (Nat.le_trans (by decide) hdm) (w := w) (n := n) (mv := mv) (rw := rw) (nx := nx) (b := b) (bt := bt) (kn := kn) (en := en) (dn := dn) (rf := rf) (kk := kk) (th := th) ⟨h19, h20, h21, h22, hbb, hbl, hb3⟩ hn1 hn2 gm gr gx 1 (by first | assumption | omega) (kc := 0) (ks := 0)) hdp (st := []) (Nat.le_of_ble_eq_true rfl) rfl (kr_I fun v8 w8 hv8 hw8 => ?_) kx_I
        obtain ⟨hR8, hFc8⟩ := hw8
        obtain ⟨h19_8, h20_8, h21_8, h22_8, hbb_8, hbl_8, hb3_8⟩ := hR8
        have hF8 := hF.tr hFc8
        subst hv8
        show J X mX8_colourings d kc ks 35 [some (.ref 19), some (.int (nI q1)), some (.int c), some (.int e)] [.int (nI 1)] w8 _
        refine J_if_eqN (pc := 35) (tgt := 40) dX8_colourings_35 (by decide) (by decide) (fun h => absurd h (by decide)) (fun _ => ?_)
        refine J_iconst (pc := 38) (v := nI 0) dX8_colourings_38 (by decide) ?_
        exact J_iret (pc := 39) dX8_colourings_39 rfl ⟨trivial, ⟨rw, nx, b, bt, kn, en, nI (tW 1 0), ⟨h19_8, h20_8, h21_8, h22_8, hbb_8, hbl_8, hb3_8⟩, hF8, gr, gx, (by first | assumption | exact KX_i (by assumption) (by omega) (by first | rfl | assumption))⟩⟩
      · refine J_iload_n (pc := 18) dX8_colourings_18 rfl rfl ?_
        refine J_if_lt (pc := 19) (tgt := 27) dX8_colourings_19 (by decide) (fun ht9 => ?_) (fun hf10 => ?_)
        · refine J_iconst (pc := 27) (v := nI 1) dX8_colourings_27 (by decide) ?_
          refine J_goto (pc := 28) (tgt := 32) dX8_colourings_28 (by decide) ?_
          refine J_callV0 (pc := 32) (M := mX8_colourings) (as := [.int (nI 1)]) dX8_colourings_32 fw_X8_isThrown_ fl_X8_105 fm_X8_isThrown_ fe_X8_isThrown_ h19 (by decide) rfl rfl rfl (c_X8_isThrown_ hs (d := d - 1) (Nat.le_trans (by decide) hdm) (w := w) (n := n) (mv := mv) (rw := rw) (nx := nx) (b := b) (bt := bt) (kn := kn) (en := en) (dn := dn) (rf := rf) (kk := kk) (th := th) ⟨h19, h20, h21, h22, hbb, hbl, hb3⟩ hn1 hn2 gm gr gx 1 (by first | assumption | omega) (kc := 0) (ks := 0)) hdp (st := []) (Nat.le_of_ble_eq_true rfl) rfl (kr_I fun v11 w11 hv11 hw11 => ?_) kx_I
          obtain ⟨hR11, hFc11⟩ := hw11
          obtain ⟨h19_11, h20_11, h21_11, h22_11, hbb_11, hbl_11, hb3_11⟩ := hR11
          have hF11 := hF.tr hFc11
          subst hv11
          show J X mX8_colourings d kc ks 35 [some (.ref 19), some (.int (nI q1)), some (.int c), some (.int e)] [.int (nI 1)] w11 _
          refine J_if_eqN (pc := 35) (tgt := 40) dX8_colourings_35 (by decide) (by decide) (fun h => absurd h (by decide)) (fun _ => ?_)
          refine J_iconst (pc := 38) (v := nI 0) dX8_colourings_38 (by decide) ?_
          exact J_iret (pc := 39) dX8_colourings_39 rfl ⟨trivial, ⟨rw, nx, b, bt, kn, en, nI (tW 1 0), ⟨h19_11, h20_11, h21_11, h22_11, hbb_11, hbl_11, hb3_11⟩, hF11, gr, gx, (by first | assumption | exact KX_i (by assumption) (by omega) (by first | rfl | assumption))⟩⟩
        · refine J_iload_n (pc := 22) dX8_colourings_22 rfl rfl ?_
          refine J_iconst (pc := 23) (v := nI 1) dX8_colourings_23 (by decide) ?_
          refine J_icmp_le (pc := 24) (tgt := 31) dX8_colourings_24 (by decide) (fun ht12 => ?_) (fun hf13 => ?_)
          · refine J_iconst (pc := 31) (v := nI 0) dX8_colourings_31 (by decide) ?_
            refine J_callV0 (pc := 32) (M := mX8_colourings) (as := [.int (nI 0)]) dX8_colourings_32 fw_X8_isThrown_ fl_X8_105 fm_X8_isThrown_ fe_X8_isThrown_ h19 (by decide) rfl rfl rfl (c_X8_isThrown_ hs (d := d - 1) (Nat.le_trans (by decide) hdm) (w := w) (n := n) (mv := mv) (rw := rw) (nx := nx) (b := b) (bt := bt) (kn := kn) (en := en) (dn := dn) (rf := rf) (kk := kk) (th := th) ⟨h19, h20, h21, h22, hbb, hbl, hb3⟩ hn1 hn2 gm gr gx 0 (by first | assumption | omega) (kc := 0) (ks := 0)) hdp (st := []) (Nat.le_of_ble_eq_true rfl) rfl (kr_I fun v14 w14 hv14 hw14 => ?_) kx_I
            obtain ⟨hR14, hFc14⟩ := hw14
            obtain ⟨h19_14, h20_14, h21_14, h22_14, hbb_14, hbl_14, hb3_14⟩ := hR14
            have hF14 := hF.tr hFc14
            subst hv14
            show J X mX8_colourings d kc ks 35 [some (.ref 19), some (.int (nI q1)), some (.int c), some (.int e)] [.int (nI 0)] w14 _
            refine J_if_eqN (pc := 35) (tgt := 40) dX8_colourings_35 (by decide) (by decide) (fun _ => ?_) (fun h => absurd h (by decide))
            obtain ⟨k15, hk15a, hk15b, rfl⟩ := nI_btw (x := c) (a := 1) (b := 3) (Int32.not_lt.mp (by assumption)) (Int32.not_lt.mp (by assumption)) (by omega) (by omega)
            refine J_iload_n (pc := 40) dX8_colourings_40 rfl rfl ?_
            refine J_if_ne (pc := 41) (tgt := 53) dX8_colourings_41 (by decide) (fun ht16 => ?_) (fun hf17 => ?_)
            · refine J_aload_n (pc := 53) dX8_colourings_53 rfl rfl rfl ?_
              refine J_iload_n (pc := 54) dX8_colourings_54 rfl rfl ?_
              refine J_iload_n (pc := 55) dX8_colourings_55 rfl rfl ?_
              refine J_callV (pc := 56) (M := mX8_colourings) (as := [.int (nI q1), .int (nI k15)]) dX8_colourings_56 fw_X8_oneByOne fl_X8_200 fm_X8_oneByOne fe_X8_oneByOne h19_14 (by decide) rfl rfl rfl (c_X8_oneByOne hs (d := d - 1) (Nat.le_trans (by decide) hdm) (w := w14) (n := n) (mv := mv) (rw := rw) (nx := nx) (b := b) (bt := bt) (kn := kn) (en := en) (dn := dn) (rf := rf) (kk := kk) (th := nI (tW 0 0)) ⟨h19_14, h20_14, h21_14, h22_14, hbb_14, hbl_14, hb3_14⟩ hn1 hn2 gm gr gx q1 k15 (by first | assumption | omega) (by first | assumption | omega) (by first | assumption | omega) (by first | assumption | omega) (kc := 2) (ks := 4374) (Nat.le_refl _) (Nat.le_refl _)) hdp (by omega) (by omega) (st := []) (Nat.le_of_ble_eq_true rfl) rfl (kr_I fun v18 w18 hv18 hw18 => ?_) kx_I
              obtain ⟨nx18, hR18, hFc18, hgnx18⟩ := hw18
              obtain ⟨h19_18, h20_18, h21_18, h22_18, hbb_18, hbl_18, hb3_18⟩ := hR18
              have hF18 := hF14.tr hFc18
              exact J_iret (pc := 59) dX8_colourings_59 rfl ⟨trivial, ⟨rw, nx18, b, bt, kn, en, nI (tW 0 0), ⟨h19_18, h20_18, h21_18, h22_18, hbb_18, hbl_18, hb3_18⟩, hF18, gr, hgnx18, (by first | assumption | exact KX_i (by assumption) (by omega) (by first | rfl | assumption))⟩⟩
            · refine J_aload_n (pc := 44) dX8_colourings_44 rfl rfl rfl ?_
              refine J_iload_n (pc := 45) dX8_colourings_45 rfl rfl ?_
              refine J_iload_n (pc := 46) dX8_colourings_46 rfl rfl ?_
              refine J_callV (pc := 47) (M := mX8_colourings) (as := [.int (nI q1), .int (nI k15)]) dX8_colourings_47 fw_X8_byThoseThatStay fl_X8_197 fm_X8_byThoseThatStay fe_X8_byThoseThatStay h19_14 (by decide) rfl rfl rfl (c_X8_byThoseThatStay hs (d := d - 1) (Nat.le_trans (by decide) hdm) (w := w14) (n := n) (mv := mv) (rw := rw) (nx := nx) (b := b) (bt := bt) (kn := kn) (en := en) (dn := dn) (rf := rf) (kk := kk) (th := nI (tW 0 0)) ⟨h19_14, h20_14, h21_14, h22_14, hbb_14, hbl_14, hb3_14⟩ hn1 hn2 gm gr gx q1 (nI k15) (by first | assumption | omega) (by first | assumption | omega) (by first | assumption | omega) (kc := 13) (ks := 2054) (Nat.le_refl _) (Nat.le_refl _)) hdp (by omega) (by omega) (st := []) (Nat.le_of_ble_eq_true rfl) rfl (kr_I fun v19 w19 hv19 hw19 => ?_) kx_I
              obtain ⟨rw19, nx19, b19, bt19, kn19, en19, hR19, hFc19, hgrw19, hgnx19, hp19_0, hp19_1⟩ := hw19
              obtain ⟨h19_19, h20_19, h21_19, h22_19, hbb_19, hbl_19, hb3_19⟩ := hR19
              have qd19 := hFc19.2.1
              have hF19 := hF14.tr hFc19
              refine J_goto (pc := 50) (tgt := 59) dX8_colourings_50 (by decide) ?_
              exact J_iret (pc := 59) dX8_colourings_59 rfl ⟨trivial, ⟨rw19, nx19, b19, bt19, kn19, en19, nI (tW 0 0), ⟨h19_19, h20_19, h21_19, h22_19, hbb_19, hbl_19, hb3_19⟩, hF19, hgrw19, hgnx19, (by first | assumption | exact KX_i (by assumption) (by omega) (by first | rfl | assumption))⟩⟩
          · refine J_iconst (pc := 27) (v := nI 1) dX8_colourings_27 (by decide) ?_
            refine J_goto (pc := 28) (tgt := 32) dX8_colourings_28 (by decide) ?_
            refine J_callV0 (pc := 32) (M := mX8_colourings) (as := [.int (nI 1)]) dX8_colourings_32 fw_X8_isThrown_ fl_X8_105 fm_X8_isThrown_ fe_X8_isThrown_ h19 (by decide) rfl rfl rfl (c_X8_isThrown_ hs (d := d - 1) (Nat.le_trans (by decide) hdm) (w := w) (n := n) (mv := mv) (rw := rw) (nx := nx) (b := b) (bt := bt) (kn := kn) (en := en) (dn := dn) (rf := rf) (kk := kk) (th := th) ⟨h19, h20, h21, h22, hbb, hbl, hb3⟩ hn1 hn2 gm gr gx 1 (by first | assumption | omega) (kc := 0) (ks := 0)) hdp (st := []) (Nat.le_of_ble_eq_true rfl) rfl (kr_I fun v20 w20 hv20 hw20 => ?_) kx_I
            obtain ⟨hR20, hFc20⟩ := hw20
            obtain ⟨h19_20, h20_20, h21_20, h22_20, hbb_20, hbl_20, hb3_20⟩ := hR20
            have hF20 := hF.tr hFc20
            subst hv20
            show J X mX8_colourings d kc ks 35 [some (.ref 19), some (.int (nI q1)), some (.int c), some (.int e)] [.int (nI 1)] w20 _
            refine J_if_eqN (pc := 35) (tgt := 40) dX8_colourings_35 (by decide) (by decide) (fun h => absurd h (by decide)) (fun _ => ?_)
            refine J_iconst (pc := 38) (v := nI 0) dX8_colourings_38 (by decide) ?_
            exact J_iret (pc := 39) dX8_colourings_39 rfl ⟨trivial, ⟨rw, nx, b, bt, kn, en, nI (tW 1 0), ⟨h19_20, h20_20, h21_20, h22_20, hbb_20, hbl_20, hb3_20⟩, hF20, gr, gx, (by first | assumption | exact KX_i (by assumption) (by omega) (by first | rfl | assumption))⟩⟩
set_option maxRecDepth 100000 in
set_option maxHeartbeats 40000000 in
theorem c_X8_isPartNow {X : jX} (hs : X.1.stackTraces = false) {d : Nat} (hd : 5 ≤ d) {n : Nat} {mv rw nx : Nat → Nat} {b : Nat} {bt : List Int32} {kn en dn rf kk th : Int32} {w : List jC} (hR : RM n mv rw nx b bt kn en dn rf kk th w) (hn1 : 2 ≤ n) (hn2 : n ≤ 7) (gm : ∀ i, mv i < 7) (gr : ∀ i, rw i < 7) (gx : ∀ i, nx i < 7) (s : Nat) (e : Nat) (hy0 : s < 64) (hy1 : e < 64) (hy2 : PM n mv) (hy3 : KX n mv kn bt) {kc ks : Nat} (hkc : 78 ≤ kc) (hks : 12324 ≤ ks) : jMet X mX8_isPartNow d kc ks [.ref 19, .int (nI s), .int (nI e)] w (pI (fun v => ∃ k : Nat, v = nI k ∧ k < 2) (fun w' => ∃ (rw' : Nat → Nat), ∃ (nx' : Nat → Nat), ∃ (b' : Nat), ∃ (bt' : List Int32), ∃ (kn' : Int32), ∃ (en' : Int32), RM n mv rw' nx' b' bt' kn' en' dn rf kk th w' ∧ FR b b' w w' ∧ (∀ i, rw' i < 7) ∧ (∀ i, nx' i < 7) ∧ KX n mv kn' bt')) := by
  refine jMet_of hs (by decide +kernel) (Nat.le_of_ble_eq_true rfl) (L := [some (.ref 19), some (.int (nI s)), some (.int (nI e)), none, none]) rfl ?_
  have hdm : 4 ≤ d - 1 := by omega
  have hdp : d - 1 + 1 ≤ d := by omega
  have hfc := fc_7 hn2
  have hfp := fc_pos n
  obtain ⟨h19, h20, h21, h22, hbb, hbl, hb3⟩ := hR
  have hF : FR b b w w := FR.rf
  refine J_iconst (pc := 0) (v := nI 1) dX8_isPartNow_0 (by decide) ?_
  refine J_istore_n (pc := 1) dX8_isPartNow_1 rfl (by decide) rfl ?_
  show J X mX8_isPartNow d kc ks 2 [some (.ref 19), some (.int (nI s)), some (.int (nI e)), some (.int (nI 1)), none] [] w _
  refine J_iconst (pc := 2) (v := nI 0) dX8_isPartNow_2 (by decide) ?_
  refine J_istore (pc := 3) dX8_isPartNow_3 (by decide) rfl ?_
  show J X mX8_isPartNow d kc ks 5 [some (.ref 19), some (.int (nI s)), some (.int (nI e)), some (.int (nI 1)), some (.int (nI 0))] [] w _
  have lp5_1 : ∀ (fuel : Nat) (kc2 ks3 : Nat) (w4 : List jC) (rw_5 : Nat → Nat) (nx_5 : Nat → Nat) (b_5 : Nat) (bt_5 : List Int32) (kn_5 : Int32) (en_5 : Int32) (y3 : Nat) (c4 : Nat), (RM n mv rw_5 nx_5 b_5 bt_5 kn_5 en_5 dn rf kk th w4) → (FR b b_5 w w4) → (∀ i, rw_5 i < 7) → (∀ i, nx_5 i < 7) → ((6 - c4) * 13 ≤ kc2) → ((6 - c4) * 2054 ≤ ks3) → (y3 < 2) → (KX n mv kn_5 bt_5) → (c4 ≤ 6) → (6 - c4 < fuel) → J X mX8_isPartNow d kc2 ks3 5 [some (.ref 19), some (.int (nI s)), some (.int (nI e)), some (.int (nI y3)), some (.int (nI c4))] [] w4 (pI (fun v => ∃ k : Nat, v = nI k ∧ k < 2) (fun w' => ∃ (rw' : Nat → Nat), ∃ (nx' : Nat → Nat), ∃ (b' : Nat), ∃ (bt' : List Int32), ∃ (kn' : Int32), ∃ (en' : Int32), RM n mv rw' nx' b' bt' kn' en' dn rf kk th w' ∧ FR b b' w w' ∧ (∀ i, rw' i < 7) ∧ (∀ i, nx' i < 7) ∧ KX n mv kn' bt')) := by
    intro fuellp5_1
    induction fuellp5_1 with
    | zero => intros; omega
    | succ fuellp5_1 ihlp5_1 =>
      intro kc2 ks3 w4 rw_5 nx_5 b_5 bt_5 kn_5 en_5 y3 c4 hR5 hF6 gr7 gx8 hr9 hr10 hv5_0 hv5_1 hv5_2 hf11
      obtain ⟨h19_12, h20_12, h21_12, h22_12, hb_12, hbl_12, hb3_12⟩ := hR5
      refine J_iload (pc := 5) dX8_isPartNow_5 rfl ?_
      refine J_bipush (pc := 7) (v := nI 6) dX8_isPartNow_7 (by decide) ?_
      refine J_icmp_geN (pc := 9) (tgt := 48) dX8_isPartNow_9 (by decide) (by omega) (by omega) (fun ht13 => ?_) (fun hf14 => ?_)
      · refine J_iload_n (pc := 48) dX8_isPartNow_48 rfl rfl ?_
        exact J_zret (pc := 49) dX8_isPartNow_49 rfl (nar_b (by first | decide | omega)) ⟨⟨y3, rfl, by omega⟩, ⟨rw_5, nx_5, b_5, bt_5, kn_5, en_5, ⟨h19_12, h20_12, h21_12, h22_12, hb_12, hbl_12, hb3_12⟩, hF6, gr7, gx8, (by first | assumption | exact KX_i (by assumption) (by omega) (by first | rfl | assumption))⟩⟩
      · refine J_iload_n (pc := 12) dX8_isPartNow_12 rfl rfl ?_
        refine J_iload (pc := 13) dX8_isPartNow_13 rfl ?_
        refine J_ishrN (pc := 15) dX8_isPartNow_15 (by omega) (by omega) ?_
        refine J_iconst (pc := 16) (v := nI 1) dX8_isPartNow_16 (by decide) ?_
        have hm15 := Nat.mod_lt (s / 2 ^ c4) (show 0 < 2 ^ 1 by decide)
        have hm16 := Nat.div_le_self s (2 ^ c4)
        refine J_iandN (pc := 17) 1 dX8_isPartNow_17 (by omega) (by decide) ?_
        refine J_iconst (pc := 18) (v := nI 1) dX8_isPartNow_18 (by decide) ?_
        refine J_icmp_neN (pc := 19) (tgt := 42) dX8_isPartNow_19 (by decide) (by omega) (by omega) (fun ht17 => ?_) (fun hf18 => ?_)
        · refine J_iincN (pc := 42) (b := 1) dX8_isPartNow_42 rfl (by decide) (by decide) rfl ?_
          show J X mX8_isPartNow d kc2 ks3 45 [some (.ref 19), some (.int (nI s)), some (.int (nI e)), some (.int (nI y3)), some (.int (nI (c4 + 1)))] [] w4 _
          refine J_goto (pc := 45) (tgt := 5) dX8_isPartNow_45 (by decide) ?_
          exact J_sub (L' := [some (.ref 19), some (.int (nI s)), some (.int (nI e)), some (.int (nI y3)), some (.int (nI (c4 + 1)))]) ⟨rfl, ⟨rfl, ⟨rfl, ⟨rfl, ⟨rfl, trivial⟩⟩⟩⟩⟩ (ihlp5_1 _ _ w4 rw_5 nx_5 b_5 bt_5 kn_5 en_5 y3 (c4 + 1) ⟨h19_12, h20_12, h21_12, h22_12, hb_12, hbl_12, hb3_12⟩ hF6 gr7 gx8 (by omega) (by omega) (by first | assumption | omega) (by first | assumption | exact KX_i (by assumption) (by omega) (by first | rfl | assumption)) (by first | assumption | omega) (by omega))
        · refine J_iload_n (pc := 22) dX8_isPartNow_22 rfl rfl ?_
          refine J_if_eqN (pc := 23) (tgt := 40) dX8_isPartNow_23 (by decide) (by omega) (fun ht19 => ?_) (fun hf20 => ?_)
          · refine J_iconst (pc := 40) (v := nI 0) dX8_isPartNow_40 (by decide) ?_
            refine J_istore_n (pc := 41) dX8_isPartNow_41 rfl (by decide) rfl ?_
            show J X mX8_isPartNow d kc2 ks3 42 [some (.ref 19), some (.int (nI s)), some (.int (nI e)), some (.int (nI 0)), some (.int (nI c4))] [] w4 _
            refine J_iincN (pc := 42) (b := 1) dX8_isPartNow_42 rfl (by decide) (by decide) rfl ?_
            show J X mX8_isPartNow d kc2 ks3 45 [some (.ref 19), some (.int (nI s)), some (.int (nI e)), some (.int (nI 0)), some (.int (nI (c4 + 1)))] [] w4 _
            refine J_goto (pc := 45) (tgt := 5) dX8_isPartNow_45 (by decide) ?_
            exact J_sub (L' := [some (.ref 19), some (.int (nI s)), some (.int (nI e)), some (.int (nI 0)), some (.int (nI (c4 + 1)))]) ⟨rfl, ⟨rfl, ⟨rfl, ⟨rfl, ⟨rfl, trivial⟩⟩⟩⟩⟩ (ihlp5_1 _ _ w4 rw_5 nx_5 b_5 bt_5 kn_5 en_5 0 (c4 + 1) ⟨h19_12, h20_12, h21_12, h22_12, hb_12, hbl_12, hb3_12⟩ hF6 gr7 gx8 (by omega) (by omega) (by first | assumption | omega) (by first | assumption | exact KX_i (by assumption) (by omega) (by first | rfl | assumption)) (by first | assumption | omega) (by omega))
          · refine J_aload_n (pc := 26) dX8_isPartNow_26 rfl rfl rfl ?_
            refine J_iload_n (pc := 27) dX8_isPartNow_27 rfl rfl ?_
            refine J_iload (pc := 28) dX8_isPartNow_28 rfl ?_
            refine J_callV (pc := 30) (M := mX8_isPartNow) (as := [.int (nI e), .int (nI c4)]) dX8_isPartNow_30 fw_X8_isInNow fl_X8_185 fm_X8_isInNow fe_X8_isInNow h19_12 (by decide) rfl rfl rfl (c_X8_isInNow hs (d := d - 1) (Nat.le_trans (by decide) hdm) (w := w4) (n := n) (mv := mv) (rw := rw_5) (nx := nx_5) (b := b_5) (bt := bt_5) (kn := kn_5) (en := en_5) (dn := dn) (rf := rf) (kk := kk) (th := th) ⟨h19_12, h20_12, h21_12, h22_12, hb_12, hbl_12, hb3_12⟩ hn1 hn2 gm gr7 gx8 e c4 (by first | assumption | omega) (by first | assumption | omega) (by first | assumption | omega) (by first | assumption | omega) (kc := 13) (ks := 2054) (Nat.le_refl _) (Nat.le_refl _)) hdp (by omega) (by omega) (st := []) (Nat.le_of_ble_eq_true rfl) rfl (kr_I fun v21 w21 hv21 hw21 => ?_) kx_I
            obtain ⟨rw21, nx21, b21, bt21, kn21, en21, hR21, hFc21, hgrw21, hgnx21, hp21_0, hp21_1⟩ := hw21
            obtain ⟨h19_21, h20_21, h21_21, h22_21, hbb_21, hbl_21, hb3_21⟩ := hR21
            have qd21 := hFc21.2.1
            have hF21 := hF6.tr hFc21
            obtain ⟨k21, rfl, hk21⟩ := hv21
            refine J_if_eqN (pc := 33) (tgt := 40) dX8_isPartNow_33 (by decide) (by omega) (fun ht22 => ?_) (fun hf23 => ?_)
            · refine J_iconst (pc := 40) (v := nI 0) dX8_isPartNow_40 (by decide) ?_
              refine J_istore_n (pc := 41) dX8_isPartNow_41 rfl (by decide) rfl ?_
              show J X mX8_isPartNow d (kc2 - 13) (ks3 - 2054) 42 [some (.ref 19), some (.int (nI s)), some (.int (nI e)), some (.int (nI 0)), some (.int (nI c4))] [] w21 _
              refine J_iincN (pc := 42) (b := 1) dX8_isPartNow_42 rfl (by decide) (by decide) rfl ?_
              show J X mX8_isPartNow d (kc2 - 13) (ks3 - 2054) 45 [some (.ref 19), some (.int (nI s)), some (.int (nI e)), some (.int (nI 0)), some (.int (nI (c4 + 1)))] [] w21 _
              refine J_goto (pc := 45) (tgt := 5) dX8_isPartNow_45 (by decide) ?_
              exact J_sub (L' := [some (.ref 19), some (.int (nI s)), some (.int (nI e)), some (.int (nI 0)), some (.int (nI (c4 + 1)))]) ⟨rfl, ⟨rfl, ⟨rfl, ⟨rfl, ⟨rfl, trivial⟩⟩⟩⟩⟩ (ihlp5_1 _ _ w21 rw21 nx21 b21 bt21 kn21 en21 0 (c4 + 1) ⟨h19_21, h20_21, h21_21, h22_21, hbb_21, hbl_21, hb3_21⟩ hF21 hgrw21 hgnx21 (by omega) (by omega) (by first | assumption | omega) (by first | assumption | exact KX_i (by assumption) (by omega) (by first | rfl | assumption)) (by first | assumption | omega) (by omega))
            · refine J_iconst (pc := 36) (v := nI 1) dX8_isPartNow_36 (by decide) ?_
              refine J_goto (pc := 37) (tgt := 41) dX8_isPartNow_37 (by decide) ?_
              refine J_istore_n (pc := 41) dX8_isPartNow_41 rfl (by decide) rfl ?_
              show J X mX8_isPartNow d (kc2 - 13) (ks3 - 2054) 42 [some (.ref 19), some (.int (nI s)), some (.int (nI e)), some (.int (nI 1)), some (.int (nI c4))] [] w21 _
              refine J_iincN (pc := 42) (b := 1) dX8_isPartNow_42 rfl (by decide) (by decide) rfl ?_
              show J X mX8_isPartNow d (kc2 - 13) (ks3 - 2054) 45 [some (.ref 19), some (.int (nI s)), some (.int (nI e)), some (.int (nI 1)), some (.int (nI (c4 + 1)))] [] w21 _
              refine J_goto (pc := 45) (tgt := 5) dX8_isPartNow_45 (by decide) ?_
              exact J_sub (L' := [some (.ref 19), some (.int (nI s)), some (.int (nI e)), some (.int (nI 1)), some (.int (nI (c4 + 1)))]) ⟨rfl, ⟨rfl, ⟨rfl, ⟨rfl, ⟨rfl, trivial⟩⟩⟩⟩⟩ (ihlp5_1 _ _ w21 rw21 nx21 b21 bt21 kn21 en21 1 (c4 + 1) ⟨h19_21, h20_21, h21_21, h22_21, hbb_21, hbl_21, hb3_21⟩ hF21 hgrw21 hgnx21 (by omega) (by omega) (by first | assumption | omega) (by first | assumption | exact KX_i (by assumption) (by omega) (by first | rfl | assumption)) (by first | assumption | omega) (by omega))
  exact J_sub (L' := [some (.ref 19), some (.int (nI s)), some (.int (nI e)), some (.int (nI 1)), some (.int (nI 0))]) ⟨rfl, ⟨rfl, ⟨rfl, ⟨rfl, ⟨rfl, trivial⟩⟩⟩⟩⟩ (lp5_1 _ _ _ w rw nx b bt kn en 1 0 ⟨h19, h20, h21, h22, hbb, hbl, hb3⟩ hF gr gx (by omega) (by omega) (by first | assumption | omega) (by assumption) (by first | assumption | omega) (Nat.lt_succ_self _))
set_option maxRecDepth 100000 in
set_option maxHeartbeats 40000000 in
theorem c_X8_isPart {X : jX} (hs : X.1.stackTraces = false) {d : Nat} (hd : 6 ≤ d) {n : Nat} {mv rw nx : Nat → Nat} {b : Nat} {bt : List Int32} {kn en dn rf kk th : Int32} {w : List jC} (hR : RM n mv rw nx b bt kn en dn rf kk th w) (hn1 : 2 ≤ n) (hn2 : n ≤ 7) (gm : ∀ i, mv i < 7) (gr : ∀ i, rw i < 7) (gx : ∀ i, nx i < 7) (s : Int32) (e : Int32) (hy0 : PM n mv) (hy1 : KX n mv kn bt) {kc ks : Nat} (hkc : 78 ≤ kc) (hks : 12324 ≤ ks) : jMet X mX8_isPart d kc ks [.ref 19, .int s, .int e] w (pI (fun v => ∃ k : Nat, v = nI k ∧ k < 2) (fun w' => ∃ (rw' : Nat → Nat), ∃ (nx' : Nat → Nat), ∃ (b' : Nat), ∃ (bt' : List Int32), ∃ (kn' : Int32), ∃ (en' : Int32), ∃ (th' : Int32), RM n mv rw' nx' b' bt' kn' en' dn rf kk th' w' ∧ FR b b' w w' ∧ (∀ i, rw' i < 7) ∧ (∀ i, nx' i < 7) ∧ KX n mv kn' bt')) := by
  refine jMet_of hs (by decide +kernel) (Nat.le_of_ble_eq_true rfl) (L := [some (.ref 19), some (.int s), some (.int e)]) rfl ?_
  have hdm : 5 ≤ d - 1 := by omega
  have hdp : d - 1 + 1 ≤ d := by omega
  have hfc := fc_7 hn2
  have hfp := fc_pos n
  obtain ⟨h19, h20, h21, h22, hbb, hbl, hb3⟩ := hR
  have hF : FR b b w w := FR.rf
  refine J_aload_n (pc := 0) dX8_isPart_0 rfl rfl rfl ?_
  refine J_iload_n (pc := 1) dX8_isPart_1 rfl rfl ?_
  refine J_callS0 (pc := 2) (M := mX8_isPart) (as := [.int s]) dX8_isPart_2 fw_X8_isSet fl_X8_134 fs_X8_isSet rfl (c_X8_isSet hs (d := d - 1) (Nat.le_trans (by decide) hdm) (w := w) s (kc := 0) (ks := 0)) hdp (st := [.ref 19]) (Nat.le_of_ble_eq_true rfl) rfl (kr_P fun v1 hv1 => ?_) kx_I
  rcases hv1 with ⟨rfl, hk1_0⟩ | ⟨q1, rfl, hk1_0, rfl⟩
  · refine J_if_eqN (pc := 5) (tgt := 15) dX8_isPart_5 (by decide) (by decide) (fun _ => ?_) (fun h => absurd h (by decide))
    refine J_iconst (pc := 15) (v := nI 1) dX8_isPart_15 (by decide) ?_
    refine J_goto (pc := 16) (tgt := 20) dX8_isPart_16 (by decide) ?_
    refine J_callV0 (pc := 20) (M := mX8_isPart) (as := [.int (nI 1)]) dX8_isPart_20 fw_X8_isThrown_ fl_X8_105 fm_X8_isThrown_ fe_X8_isThrown_ h19 (by decide) rfl rfl rfl (c_X8_isThrown_ hs (d := d - 1) (Nat.le_trans (by decide) hdm) (w := w) (n := n) (mv := mv) (rw := rw) (nx := nx) (b := b) (bt := bt) (kn := kn) (en := en) (dn := dn) (rf := rf) (kk := kk) (th := th) ⟨h19, h20, h21, h22, hbb, hbl, hb3⟩ hn1 hn2 gm gr gx 1 (by first | assumption | omega) (kc := 0) (ks := 0)) hdp (st := []) (Nat.le_of_ble_eq_true rfl) rfl (kr_I fun v2 w2 hv2 hw2 => ?_) kx_I
    obtain ⟨hR2, hFc2⟩ := hw2
    obtain ⟨h19_2, h20_2, h21_2, h22_2, hbb_2, hbl_2, hb3_2⟩ := hR2
    have hF2 := hF.tr hFc2
    subst hv2
    show J X mX8_isPart d kc ks 23 [some (.ref 19), some (.int s), some (.int e)] [.int (nI 1)] w2 _
    refine J_if_neN (pc := 23) (tgt := 39) dX8_isPart_23 (by decide) (by decide) (fun _ => ?_) (fun h => absurd h (by decide))
    refine J_iconst (pc := 39) (v := nI 0) dX8_isPart_39 (by decide) ?_
    exact J_zret (pc := 40) dX8_isPart_40 rfl (nar_b (by first | decide | omega)) ⟨⟨0, rfl, by omega⟩, ⟨rw, nx, b, bt, kn, en, nI (tW 1 0), ⟨h19_2, h20_2, h21_2, h22_2, hbb_2, hbl_2, hb3_2⟩, hF2, gr, gx, (by first | assumption | exact KX_i (by assumption) (by omega) (by first | rfl | assumption))⟩⟩
  · refine J_if_eqN (pc := 5) (tgt := 15) dX8_isPart_5 (by decide) (by decide) (fun h => absurd h (by decide)) (fun _ => ?_)
    refine J_iload_n (pc := 8) dX8_isPart_8 rfl rfl ?_
    refine J_callS0 (pc := 9) (M := mX8_isPart) (as := [.int e]) dX8_isPart_9 fw_X8_isSet fl_X8_134 fs_X8_isSet rfl (c_X8_isSet hs (d := d - 1) (Nat.le_trans (by decide) hdm) (w := w) e (kc := 0) (ks := 0)) hdp (st := [.ref 19]) (Nat.le_of_ble_eq_true rfl) rfl (kr_P fun v3 hv3 => ?_) kx_I
    rcases hv3 with ⟨rfl, hk3_0⟩ | ⟨q3, rfl, hk3_0, rfl⟩
    · refine J_if_neN (pc := 12) (tgt := 19) dX8_isPart_12 (by decide) (by decide) (fun h => absurd h (by decide)) (fun _ => ?_)
      refine J_iconst (pc := 15) (v := nI 1) dX8_isPart_15 (by decide) ?_
      refine J_goto (pc := 16) (tgt := 20) dX8_isPart_16 (by decide) ?_
      refine J_callV0 (pc := 20) (M := mX8_isPart) (as := [.int (nI 1)]) dX8_isPart_20 fw_X8_isThrown_ fl_X8_105 fm_X8_isThrown_ fe_X8_isThrown_ h19 (by decide) rfl rfl rfl (c_X8_isThrown_ hs (d := d - 1) (Nat.le_trans (by decide) hdm) (w := w) (n := n) (mv := mv) (rw := rw) (nx := nx) (b := b) (bt := bt) (kn := kn) (en := en) (dn := dn) (rf := rf) (kk := kk) (th := th) ⟨h19, h20, h21, h22, hbb, hbl, hb3⟩ hn1 hn2 gm gr gx 1 (by first | assumption | omega) (kc := 0) (ks := 0)) hdp (st := []) (Nat.le_of_ble_eq_true rfl) rfl (kr_I fun v4 w4 hv4 hw4 => ?_) kx_I
      obtain ⟨hR4, hFc4⟩ := hw4
      obtain ⟨h19_4, h20_4, h21_4, h22_4, hbb_4, hbl_4, hb3_4⟩ := hR4
      have hF4 := hF.tr hFc4
      subst hv4
      show J X mX8_isPart d kc ks 23 [some (.ref 19), some (.int (nI q1)), some (.int e)] [.int (nI 1)] w4 _
      refine J_if_neN (pc := 23) (tgt := 39) dX8_isPart_23 (by decide) (by decide) (fun _ => ?_) (fun h => absurd h (by decide))
      refine J_iconst (pc := 39) (v := nI 0) dX8_isPart_39 (by decide) ?_
      exact J_zret (pc := 40) dX8_isPart_40 rfl (nar_b (by first | decide | omega)) ⟨⟨0, rfl, by omega⟩, ⟨rw, nx, b, bt, kn, en, nI (tW 1 0), ⟨h19_4, h20_4, h21_4, h22_4, hbb_4, hbl_4, hb3_4⟩, hF4, gr, gx, (by first | assumption | exact KX_i (by assumption) (by omega) (by first | rfl | assumption))⟩⟩
    · refine J_if_neN (pc := 12) (tgt := 19) dX8_isPart_12 (by decide) (by decide) (fun _ => ?_) (fun h => absurd h (by decide))
      refine J_iconst (pc := 19) (v := nI 0) dX8_isPart_19 (by decide) ?_
      refine J_callV0 (pc := 20) (M := mX8_isPart) (as := [.int (nI 0)]) dX8_isPart_20 fw_X8_isThrown_ fl_X8_105 fm_X8_isThrown_ fe_X8_isThrown_ h19 (by decide) rfl rfl rfl (c_X8_isThrown_ hs (d := d - 1) (Nat.le_trans (by decide) hdm) (w := w) (n := n) (mv := mv) (rw := rw) (nx := nx) (b := b) (bt := bt) (kn := kn) (en := en) (dn := dn) (rf := rf) (kk := kk) (th := th) ⟨h19, h20, h21, h22, hbb, hbl, hb3⟩ hn1 hn2 gm gr gx 0 (by first | assumption | omega) (kc := 0) (ks := 0)) hdp (st := []) (Nat.le_of_ble_eq_true rfl) rfl (kr_I fun v5 w5 hv5 hw5 => ?_) kx_I
      obtain ⟨hR5, hFc5⟩ := hw5
      obtain ⟨h19_5, h20_5, h21_5, h22_5, hbb_5, hbl_5, hb3_5⟩ := hR5
      have hF5 := hF.tr hFc5
      subst hv5
      show J X mX8_isPart d kc ks 23 [some (.ref 19), some (.int (nI q1)), some (.int (nI q3))] [.int (nI 0)] w5 _
      refine J_if_neN (pc := 23) (tgt := 39) dX8_isPart_23 (by decide) (by decide) (fun h => absurd h (by decide)) (fun _ => ?_)
      refine J_aload_n (pc := 26) dX8_isPart_26 rfl rfl rfl ?_
      refine J_iload_n (pc := 27) dX8_isPart_27 rfl rfl ?_
      refine J_iload_n (pc := 28) dX8_isPart_28 rfl rfl ?_
      refine J_callV (pc := 29) (M := mX8_isPart) (as := [.int (nI q1), .int (nI q3)]) dX8_isPart_29 fw_X8_isPartNow fl_X8_209 fm_X8_isPartNow fe_X8_isPartNow h19_5 (by decide) rfl rfl rfl (c_X8_isPartNow hs (d := d - 1) (Nat.le_trans (by decide) hdm) (w := w5) (n := n) (mv := mv) (rw := rw) (nx := nx) (b := b) (bt := bt) (kn := kn) (en := en) (dn := dn) (rf := rf) (kk := kk) (th := nI (tW 0 0)) ⟨h19_5, h20_5, h21_5, h22_5, hbb_5, hbl_5, hb3_5⟩ hn1 hn2 gm gr gx q1 q3 (by first | assumption | omega) (by first | assumption | omega) (by first | assumption | omega) (by first | assumption | omega) (kc := 78) (ks := 12324) (Nat.le_refl _) (Nat.le_refl _)) hdp (by omega) (by omega) (st := []) (Nat.le_of_ble_eq_true rfl) rfl (kr_I fun v6 w6 hv6 hw6 => ?_) kx_I
      obtain ⟨rw6, nx6, b6, bt6, kn6, en6, hR6, hFc6, hgrw6, hgnx6, hp6_0⟩ := hw6
      obtain ⟨h19_6, h20_6, h21_6, h22_6, hbb_6, hbl_6, hb3_6⟩ := hR6
      have qd6 := hFc6.2.1
      have hF6 := hF5.tr hFc6
      obtain ⟨k6, rfl, hk6⟩ := hv6
      refine J_if_eqN (pc := 32) (tgt := 39) dX8_isPart_32 (by decide) (by omega) (fun ht7 => ?_) (fun hf8 => ?_)
      · refine J_iconst (pc := 39) (v := nI 0) dX8_isPart_39 (by decide) ?_
        exact J_zret (pc := 40) dX8_isPart_40 rfl (nar_b (by first | decide | omega)) ⟨⟨0, rfl, by omega⟩, ⟨rw6, nx6, b6, bt6, kn6, en6, nI (tW 0 0), ⟨h19_6, h20_6, h21_6, h22_6, hbb_6, hbl_6, hb3_6⟩, hF6, hgrw6, hgnx6, (by first | assumption | exact KX_i (by assumption) (by omega) (by first | rfl | assumption))⟩⟩
      · refine J_iconst (pc := 35) (v := nI 1) dX8_isPart_35 (by decide) ?_
        refine J_goto (pc := 36) (tgt := 40) dX8_isPart_36 (by decide) ?_
        exact J_zret (pc := 40) dX8_isPart_40 rfl (nar_b (by first | decide | omega)) ⟨⟨1, rfl, by omega⟩, ⟨rw6, nx6, b6, bt6, kn6, en6, nI (tW 0 0), ⟨h19_6, h20_6, h21_6, h22_6, hbb_6, hbl_6, hb3_6⟩, hF6, hgrw6, hgnx6, (by first | assumption | exact KX_i (by assumption) (by omega) (by first | rfl | assumption))⟩⟩
end
section
/-! contracts of the reference: rspec4 -/
set_option maxRecDepth 100000 in
set_option maxHeartbeats 40000000 in
theorem c_X8_shares {X : jX} (hs : X.1.stackTraces = false) {d : Nat} (hd : 6 ≤ d) {n : Nat} {mv rw nx : Nat → Nat} {b : Nat} {bt : List Int32} {kn en dn rf kk th : Int32} {w : List jC} (hR : RM n mv rw nx b bt kn en dn rf kk th w) (hn1 : 2 ≤ n) (hn2 : n ≤ 7) (gm : ∀ i, mv i < 7) (gr : ∀ i, rw i < 7) (gx : ∀ i, nx i < 7) (s : Int32) (e : Int32) (hy0 : PM n mv) (hy1 : KX n mv kn bt) {kc ks : Nat} (hkc : 104 ≤ kc) (hks : 16432 ≤ ks) : jMet X mX8_shares d kc ks [.ref 19, .int s, .int e] w (pI (fun _ => True) (fun w' => ∃ (rw' : Nat → Nat), ∃ (nx' : Nat → Nat), ∃ (b' : Nat), ∃ (bt' : List Int32), ∃ (kn' : Int32), ∃ (en' : Int32), ∃ (th' : Int32), RM n mv rw' nx' b' bt' kn' en' dn rf kk th' w' ∧ FR b b' w w' ∧ (∀ i, rw' i < 7) ∧ (∀ i, nx' i < 7) ∧ KX n mv kn' bt')) := by
  refine jMet_of hs (by decide +kernel) (Nat.le_of_ble_eq_true rfl) (L := [some (.ref 19), some (.int s), some (.int e), none]) rfl ?_
  have hdm : 5 ≤ d - 1 := by omega
  have hdp : d - 1 + 1 ≤ d := by omega
  have hfc := fc_7 hn2
  have hfp := fc_pos n
  obtain ⟨h19, h20, h21, h22, hbb, hbl, hb3⟩ := hR
  have hF : FR b b w w := FR.rf
  refine J_aload_n (pc := 0) dX8_shares_0 rfl rfl rfl ?_
  refine J_iload_n (pc := 1) dX8_shares_1 rfl rfl ?_
  refine J_callS0 (pc := 2) (M := mX8_shares) (as := [.int s]) dX8_shares_2 fw_X8_isSet fl_X8_134 fs_X8_isSet rfl (c_X8_isSet hs (d := d - 1) (Nat.le_trans (by decide) hdm) (w := w) s (kc := 0) (ks := 0)) hdp (st := [.ref 19]) (Nat.le_of_ble_eq_true rfl) rfl (kr_P fun v1 hv1 => ?_) kx_I
  rcases hv1 with ⟨rfl, hk1_0⟩ | ⟨q1, rfl, hk1_0, rfl⟩
  · refine J_if_eqN (pc := 5) (tgt := 15) dX8_shares_5 (by decide) (by decide) (fun _ => ?_) (fun h => absurd h (by decide))
    refine J_iconst (pc := 15) (v := nI 1) dX8_shares_15 (by decide) ?_
    refine J_goto (pc := 16) (tgt := 20) dX8_shares_16 (by decide) ?_
    refine J_callV0 (pc := 20) (M := mX8_shares) (as := [.int (nI 1)]) dX8_shares_20 fw_X8_isThrown_ fl_X8_105 fm_X8_isThrown_ fe_X8_isThrown_ h19 (by decide) rfl rfl rfl (c_X8_isThrown_ hs (d := d - 1) (Nat.le_trans (by decide) hdm) (w := w) (n := n) (mv := mv) (rw := rw) (nx := nx) (b := b) (bt := bt) (kn := kn) (en := en) (dn := dn) (rf := rf) (kk := kk) (th := th) ⟨h19, h20, h21, h22, hbb, hbl, hb3⟩ hn1 hn2 gm gr gx 1 (by first | assumption | omega) (kc := 0) (ks := 0)) hdp (st := []) (Nat.le_of_ble_eq_true rfl) rfl (kr_I fun v2 w2 hv2 hw2 => ?_) kx_I
    obtain ⟨hR2, hFc2⟩ := hw2
    obtain ⟨h19_2, h20_2, h21_2, h22_2, hbb_2, hbl_2, hb3_2⟩ := hR2
    have hF2 := hF.tr hFc2
    subst hv2
    show J X mX8_shares d kc ks 23 [some (.ref 19), some (.int s), some (.int e), none] [.int (nI 1)] w2 _
    refine J_if_eqN (pc := 23) (tgt := 28) dX8_shares_23 (by decide) (by decide) (fun h => absurd h (by decide)) (fun _ => ?_)
    refine J_iconst (pc := 26) (v := nI 0) dX8_shares_26 (by decide) ?_
    exact J_iret (pc := 27) dX8_shares_27 rfl ⟨trivial, ⟨rw, nx, b, bt, kn, en, nI (tW 1 0), ⟨h19_2, h20_2, h21_2, h22_2, hbb_2, hbl_2, hb3_2⟩, hF2, gr, gx, (by first | assumption | exact KX_i (by assumption) (by omega) (by first | rfl | assumption))⟩⟩
  · refine J_if_eqN (pc := 5) (tgt := 15) dX8_shares_5 (by decide) (by decide) (fun h => absurd h (by decide)) (fun _ => ?_)
    refine J_iload_n (pc := 8) dX8_shares_8 rfl rfl ?_
    refine J_callS0 (pc := 9) (M := mX8_shares) (as := [.int e]) dX8_shares_9 fw_X8_isSet fl_X8_134 fs_X8_isSet rfl (c_X8_isSet hs (d := d - 1) (Nat.le_trans (by decide) hdm) (w := w) e (kc := 0) (ks := 0)) hdp (st := [.ref 19]) (Nat.le_of_ble_eq_true rfl) rfl (kr_P fun v3 hv3 => ?_) kx_I
    rcases hv3 with ⟨rfl, hk3_0⟩ | ⟨q3, rfl, hk3_0, rfl⟩
    · refine J_if_neN (pc := 12) (tgt := 19) dX8_shares_12 (by decide) (by decide) (fun h => absurd h (by decide)) (fun _ => ?_)
      refine J_iconst (pc := 15) (v := nI 1) dX8_shares_15 (by decide) ?_
      refine J_goto (pc := 16) (tgt := 20) dX8_shares_16 (by decide) ?_
      refine J_callV0 (pc := 20) (M := mX8_shares) (as := [.int (nI 1)]) dX8_shares_20 fw_X8_isThrown_ fl_X8_105 fm_X8_isThrown_ fe_X8_isThrown_ h19 (by decide) rfl rfl rfl (c_X8_isThrown_ hs (d := d - 1) (Nat.le_trans (by decide) hdm) (w := w) (n := n) (mv := mv) (rw := rw) (nx := nx) (b := b) (bt := bt) (kn := kn) (en := en) (dn := dn) (rf := rf) (kk := kk) (th := th) ⟨h19, h20, h21, h22, hbb, hbl, hb3⟩ hn1 hn2 gm gr gx 1 (by first | assumption | omega) (kc := 0) (ks := 0)) hdp (st := []) (Nat.le_of_ble_eq_true rfl) rfl (kr_I fun v4 w4 hv4 hw4 => ?_) kx_I
      obtain ⟨hR4, hFc4⟩ := hw4
      obtain ⟨h19_4, h20_4, h21_4, h22_4, hbb_4, hbl_4, hb3_4⟩ := hR4
      have hF4 := hF.tr hFc4
      subst hv4
      show J X mX8_shares d kc ks 23 [some (.ref 19), some (.int (nI q1)), some (.int e), none] [.int (nI 1)] w4 _
      refine J_if_eqN (pc := 23) (tgt := 28) dX8_shares_23 (by decide) (by decide) (fun h => absurd h (by decide)) (fun _ => ?_)
      refine J_iconst (pc := 26) (v := nI 0) dX8_shares_26 (by decide) ?_
      exact J_iret (pc := 27) dX8_shares_27 rfl ⟨trivial, ⟨rw, nx, b, bt, kn, en, nI (tW 1 0), ⟨h19_4, h20_4, h21_4, h22_4, hbb_4, hbl_4, hb3_4⟩, hF4, gr, gx, (by first | assumption | exact KX_i (by assumption) (by omega) (by first | rfl | assumption))⟩⟩
    · refine J_if_neN (pc := 12) (tgt := 19) dX8_shares_12 (by decide) (by decide) (fun _ => ?_) (fun h => absurd h (by decide))
      refine J_iconst (pc := 19) (v := nI 0) dX8_shares_19 (by decide) ?_
      refine J_callV0 (pc := 20) (M := mX8_shares) (as := [.int (nI 0)]) dX8_shares_20 fw_X8_isThrown_ fl_X8_105 fm_X8_isThrown_ fe_X8_isThrown_ h19 (by decide) rfl rfl rfl (c_X8_isThrown_ hs (d := d - 1) (Nat.le_trans (by decide) hdm) (w := w) (n := n) (mv := mv) (rw := rw) (nx := nx) (b := b) (bt := bt) (kn := kn) (en := en) (dn := dn) (rf := rf) (kk := kk) (th := th) ⟨h19, h20, h21, h22, hbb, hbl, hb3⟩ hn1 hn2 gm gr gx 0 (by first | assumption | omega) (kc := 0) (ks := 0)) hdp (st := []) (Nat.le_of_ble_eq_true rfl) rfl (kr_I fun v5 w5 hv5 hw5 => ?_) kx_I
      obtain ⟨hR5, hFc5⟩ := hw5
      obtain ⟨h19_5, h20_5, h21_5, h22_5, hbb_5, hbl_5, hb3_5⟩ := hR5
      have hF5 := hF.tr hFc5
      subst hv5
      show J X mX8_shares d kc ks 23 [some (.ref 19), some (.int (nI q1)), some (.int (nI q3)), none] [.int (nI 0)] w5 _
      refine J_if_eqN (pc := 23) (tgt := 28) dX8_shares_23 (by decide) (by decide) (fun _ => ?_) (fun h => absurd h (by decide))
      refine J_aload_n (pc := 28) dX8_shares_28 rfl rfl rfl ?_
      refine J_iload_n (pc := 29) dX8_shares_29 rfl rfl ?_
      refine J_iload_n (pc := 30) dX8_shares_30 rfl rfl ?_
      refine J_callV (pc := 31) (M := mX8_shares) (as := [.int (nI q1), .int (nI q3)]) dX8_shares_31 fw_X8_isPartNow fl_X8_209 fm_X8_isPartNow fe_X8_isPartNow h19_5 (by decide) rfl rfl rfl (c_X8_isPartNow hs (d := d - 1) (Nat.le_trans (by decide) hdm) (w := w5) (n := n) (mv := mv) (rw := rw) (nx := nx) (b := b) (bt := bt) (kn := kn) (en := en) (dn := dn) (rf := rf) (kk := kk) (th := nI (tW 0 0)) ⟨h19_5, h20_5, h21_5, h22_5, hbb_5, hbl_5, hb3_5⟩ hn1 hn2 gm gr gx q1 q3 (by first | assumption | omega) (by first | assumption | omega) (by first | assumption | omega) (by first | assumption | omega) (kc := 78) (ks := 12324) (Nat.le_refl _) (Nat.le_refl _)) hdp (by omega) (by omega) (st := []) (Nat.le_of_ble_eq_true rfl) rfl (kr_I fun v6 w6 hv6 hw6 => ?_) kx_I
      obtain ⟨rw6, nx6, b6, bt6, kn6, en6, hR6, hFc6, hgrw6, hgnx6, hp6_0⟩ := hw6
      obtain ⟨h19_6, h20_6, h21_6, h22_6, hbb_6, hbl_6, hb3_6⟩ := hR6
      have qd6 := hFc6.2.1
      have hF6 := hF5.tr hFc6
      obtain ⟨k6, rfl, hk6⟩ := hv6
      refine J_if_neN (pc := 34) (tgt := 40) dX8_shares_34 (by decide) (by omega) (fun ht7 => ?_) (fun hf8 => ?_)
      · refine J_aload_n (pc := 40) dX8_shares_40 rfl rfl rfl ?_
        refine J_iload_n (pc := 41) dX8_shares_41 rfl rfl ?_
        refine J_callV (pc := 42) (M := mX8_shares) (as := [.int (nI q3)]) dX8_shares_42 fw_X8_sizeOf fl_X8_178 fm_X8_sizeOf fe_X8_sizeOf h19_6 (by decide) rfl rfl rfl (c_X8_sizeOf hs (d := d - 1) (Nat.le_trans (by decide) hdm) (w := w6) (n := n) (mv := mv) (rw := rw6) (nx := nx6) (b := b6) (bt := bt6) (kn := kn6) (en := en6) (dn := dn) (rf := rf) (kk := kk) (th := nI (tW 0 0)) ⟨h19_6, h20_6, h21_6, h22_6, hbb_6, hbl_6, hb3_6⟩ hn1 hn2 gm hgrw6 hgnx6 q3 (by first | assumption | omega) (by first | assumption | omega) (by first | assumption | omega) (kc := 13) (ks := 2054) (Nat.le_refl _) (Nat.le_refl _)) hdp (by omega) (by omega) (st := []) (Nat.le_of_ble_eq_true rfl) rfl (kr_I fun v9 w9 hv9 hw9 => ?_) kx_I
        obtain ⟨rw9, nx9, b9, bt9, kn9, en9, hR9, hFc9, hgrw9, hgnx9, hp9_0, hp9_1⟩ := hw9
        obtain ⟨h19_9, h20_9, h21_9, h22_9, hbb_9, hbl_9, hb3_9⟩ := hR9
        have qd9 := hFc9.2.1
        have hF9 := hF6.tr hFc9
        obtain ⟨k9, rfl, hk9⟩ := hv9
        refine J_istore_n (pc := 45) dX8_shares_45 rfl (by decide) rfl ?_
        show J X mX8_shares d (kc - 78 - 13) (ks - 12324 - 2054) 46 [some (.ref 19), some (.int (nI q1)), some (.int (nI q3)), some (.int (nI k9))] [] w9 _
        refine J_iload_n (pc := 46) dX8_shares_46 rfl rfl ?_
        refine J_aload_n (pc := 47) dX8_shares_47 rfl rfl rfl ?_
        refine J_iload_n (pc := 48) dX8_shares_48 rfl rfl ?_
        refine J_callV (pc := 49) (M := mX8_shares) (as := [.int (nI q1)]) dX8_shares_49 fw_X8_sizeOf fl_X8_178 fm_X8_sizeOf fe_X8_sizeOf h19_9 (by decide) rfl rfl rfl (c_X8_sizeOf hs (d := d - 1) (Nat.le_trans (by decide) hdm) (w := w9) (n := n) (mv := mv) (rw := rw9) (nx := nx9) (b := b9) (bt := bt9) (kn := kn9) (en := en9) (dn := dn) (rf := rf) (kk := kk) (th := nI (tW 0 0)) ⟨h19_9, h20_9, h21_9, h22_9, hbb_9, hbl_9, hb3_9⟩ hn1 hn2 gm hgrw9 hgnx9 q1 (by first | assumption | omega) (by first | assumption | omega) (by exact KX_i (by assumption) (by omega) (by first | rfl | assumption)) (kc := 13) (ks := 2054) (Nat.le_refl _) (Nat.le_refl _)) hdp (by omega) (by omega) (st := [.int (nI k9)]) (Nat.le_of_ble_eq_true rfl) rfl (kr_I fun v10 w10 hv10 hw10 => ?_) kx_I
        obtain ⟨rw10, nx10, b10, bt10, kn10, en10, hR10, hFc10, hgrw10, hgnx10, hp10_0, hp10_1⟩ := hw10
        obtain ⟨h19_10, h20_10, h21_10, h22_10, hbb_10, hbl_10, hb3_10⟩ := hR10
        have qd10 := hFc10.2.1
        have hF10 := hF9.tr hFc10
        obtain ⟨k10, rfl, hk10⟩ := hv10
        have hm11 := Nat.mod_lt k9 (show 0 < k10 by omega)
        have hm12 := Nat.div_le_self k9 k10
        refine J_idivN (pc := 52) dX8_shares_52 (by omega) (by omega) (by omega) ?_
        exact J_iret (pc := 53) dX8_shares_53 rfl ⟨trivial, ⟨rw10, nx10, b10, bt10, kn10, en10, nI (tW 0 0), ⟨h19_10, h20_10, h21_10, h22_10, hbb_10, hbl_10, hb3_10⟩, hF10, hgrw10, hgnx10, (by first | assumption | exact KX_i (by assumption) (by omega) (by first | rfl | assumption))⟩⟩
      · refine J_bipush (pc := 37) (v := (-9)) dX8_shares_37 (by decide) ?_
        exact J_iret (pc := 39) dX8_shares_39 rfl ⟨trivial, ⟨rw6, nx6, b6, bt6, kn6, en6, nI (tW 0 0), ⟨h19_6, h20_6, h21_6, h22_6, hbb_6, hbl_6, hb3_6⟩, hF6, hgrw6, hgnx6, (by first | assumption | exact KX_i (by assumption) (by omega) (by first | rfl | assumption))⟩⟩
end
section
/-! contracts of the reference: rspec4 -/
/-- from(), in one form: the number that comes, and one more; nought if none does -/
theorem c_X8_from_atm {X : jX} (hs : X.1.stackTraces = false) {d : Nat} (hd : 1 ≤ d) {n : Nat} {mv rw nx : Nat → Nat} {b : Nat} {bt : List Int32} {kn en dn rf kk th : Int32} {w : List jC} (hR : RM n mv rw nx b bt kn en dn rf kk th w) (hn1 : 2 ≤ n) (hn2 : n ≤ 7) (gm : ∀ i, mv i < 7) (gr : ∀ i, rw i < 7) (gx : ∀ i, nx i < 7) (a : Nat) (hy0 : a ≤ fc n) {kc ks : Nat} : jMet X mX8_from d kc ks [.ref 19, .int (nI a)] w (pI (fun v => ∃ k : Nat, v = nI k + Int32.ofInt (-1) ∧ k ≤ fc n ∧ (k = 0 ∨ a < k)) (fun w' => w' = w)) := by
  refine (c_X8_from hs hd hR hn1 hn2 gm gr gx a hy0).mono (fun o w' h => ?_)
  match o, h with
  | .inl (some (.int v)), h =>
    refine ⟨?_, h.2⟩
    rcases h.1 with ⟨e, _⟩ | ⟨q, e, h1, h2, _⟩
    · exact ⟨0, e.trans (by decide), Nat.zero_le _, Or.inl rfl⟩
    · exact ⟨q + 1, e.trans (nI_n1 q), by omega, Or.inr (by omega)⟩
set_option maxRecDepth 100000 in
set_option maxHeartbeats 40000000 in
theorem c_X8_share {X : jX} (hs : X.1.stackTraces = false) {d : Nat} (hd : 4 ≤ d) {n : Nat} {mv rw nx : Nat → Nat} {b : Nat} {bt : List Int32} {kn en dn rf kk th : Int32} {w : List jC} (hR : RM n mv rw nx b bt kn en dn rf kk th w) (hn1 : 2 ≤ n) (hn2 : n ≤ 7) (gm : ∀ i, mv i < 7) (gr : ∀ i, rw i < 7) (gx : ∀ i, nx i < 7) (s : Int32) (a : Int32) (hy0 : PM n mv) (hy1 : KX n mv kn bt) {kc ks : Nat} (hkc : 13 ≤ kc) (hks : 2054 ≤ ks) : jMet X mX8_share d kc ks [.ref 19, .int s, .int a] w (pI (fun _ => True) (fun w' => ∃ (rw' : Nat → Nat), ∃ (nx' : Nat → Nat), ∃ (b' : Nat), ∃ (bt' : List Int32), ∃ (kn' : Int32), ∃ (en' : Int32), ∃ (th' : Int32), RM n mv rw' nx' b' bt' kn' en' dn rf kk th' w' ∧ FR b b' w w' ∧ (∀ i, rw' i < 7) ∧ (∀ i, nx' i < 7) ∧ KX n mv kn' bt')) := by
  refine jMet_of hs (by decide +kernel) (Nat.le_of_ble_eq_true rfl) (L := [some (.ref 19), some (.int s), some (.int a), none, none, none]) rfl ?_
  have hdm : 3 ≤ d - 1 := by omega
  have hdp : d - 1 + 1 ≤ d := by omega
  have hfc := fc_7 hn2
  have hfp := fc_pos n
  obtain ⟨h19, h20, h21, h22, hbb, hbl, hb3⟩ := hR
  have hF : FR b b w w := FR.rf
  refine J_aload_n (pc := 0) dX8_share_0 rfl rfl rfl ?_
  refine J_iload_n (pc := 1) dX8_share_1 rfl rfl ?_
  refine J_callS0 (pc := 2) (M := mX8_share) (as := [.int a]) dX8_share_2 fw_X8_isCell fl_X8_108 fs_X8_isCell rfl (c_X8_isCell hs (d := d - 1) (Nat.le_trans (by decide) hdm) (w := w) a (kc := 0) (ks := 0)) hdp (st := [.ref 19]) (Nat.le_of_ble_eq_true rfl) rfl (kr_P fun v1 hv1 => ?_) kx_I
  rcases hv1 with ⟨rfl, hk1_0⟩ | ⟨q1, rfl, hk1_0, rfl⟩
  · refine J_if_neN (pc := 5) (tgt := 12) dX8_share_5 (by decide) (by decide) (fun h => absurd h (by decide)) (fun _ => ?_)
    refine J_iconst (pc := 8) (v := nI 1) dX8_share_8 (by decide) ?_
    refine J_goto (pc := 9) (tgt := 13) dX8_share_9 (by decide) ?_
    refine J_iload_n (pc := 13) dX8_share_13 rfl rfl ?_
    refine J_callS0 (pc := 14) (M := mX8_share) (as := [.int s]) dX8_share_14 fw_X8_isSet fl_X8_134 fs_X8_isSet rfl (c_X8_isSet hs (d := d - 1) (Nat.le_trans (by decide) hdm) (w := w) s (kc := 0) (ks := 0)) hdp (st := [.int (nI 1), .ref 19]) (Nat.le_of_ble_eq_true rfl) rfl (kr_P fun v2 hv2 => ?_) kx_I
    rcases hv2 with ⟨rfl, hk2_0⟩ | ⟨q2, rfl, hk2_0, rfl⟩
    · refine J_if_neN (pc := 17) (tgt := 24) dX8_share_17 (by decide) (by decide) (fun h => absurd h (by decide)) (fun _ => ?_)
      refine J_iconst (pc := 20) (v := nI 1) dX8_share_20 (by decide) ?_
      refine J_goto (pc := 21) (tgt := 25) dX8_share_21 (by decide) ?_
      refine J_callV0 (pc := 25) (M := mX8_share) (as := [.int (nI 1), .int (nI 1)]) dX8_share_25 fw_X8_isThrown fl_X8_35 fm_X8_isThrown fe_X8_isThrown h19 (by decide) rfl rfl rfl (c_X8_isThrown hs (d := d - 1) (Nat.le_trans (by decide) hdm) (w := w) (n := n) (mv := mv) (rw := rw) (nx := nx) (b := b) (bt := bt) (kn := kn) (en := en) (dn := dn) (rf := rf) (kk := kk) (th := th) ⟨h19, h20, h21, h22, hbb, hbl, hb3⟩ hn1 hn2 gm gr gx 1 1 (by first | assumption | omega) (by first | assumption | omega) (kc := 0) (ks := 0)) hdp (st := []) (Nat.le_of_ble_eq_true rfl) rfl (kr_I fun v3 w3 hv3 hw3 => ?_) kx_I
      obtain ⟨hR3, hFc3⟩ := hw3
      obtain ⟨h19_3, h20_3, h21_3, h22_3, hbb_3, hbl_3, hb3_3⟩ := hR3
      have hF3 := hF.tr hFc3
      subst hv3
      show J X mX8_share d kc ks 28 [some (.ref 19), some (.int s), some (.int a), none, none, none] [.int (nI 1)] w3 _
      refine J_if_eqN (pc := 28) (tgt := 33) dX8_share_28 (by decide) (by decide) (fun h => absurd h (by decide)) (fun _ => ?_)
      refine J_iconst (pc := 31) (v := nI 0) dX8_share_31 (by decide) ?_
      exact J_iret (pc := 32) dX8_share_32 rfl ⟨trivial, ⟨rw, nx, b, bt, kn, en, nI (tW 1 1), ⟨h19_3, h20_3, h21_3, h22_3, hbb_3, hbl_3, hb3_3⟩, hF3, gr, gx, (by first | assumption | exact KX_i (by assumption) (by omega) (by first | rfl | assumption))⟩⟩
    · refine J_if_neN (pc := 17) (tgt := 24) dX8_share_17 (by decide) (by decide) (fun _ => ?_) (fun h => absurd h (by decide))
      refine J_iconst (pc := 24) (v := nI 0) dX8_share_24 (by decide) ?_
      refine J_callV0 (pc := 25) (M := mX8_share) (as := [.int (nI 1), .int (nI 0)]) dX8_share_25 fw_X8_isThrown fl_X8_35 fm_X8_isThrown fe_X8_isThrown h19 (by decide) rfl rfl rfl (c_X8_isThrown hs (d := d - 1) (Nat.le_trans (by decide) hdm) (w := w) (n := n) (mv := mv) (rw := rw) (nx := nx) (b := b) (bt := bt) (kn := kn) (en := en) (dn := dn) (rf := rf) (kk := kk) (th := th) ⟨h19, h20, h21, h22, hbb, hbl, hb3⟩ hn1 hn2 gm gr gx 1 0 (by first | assumption | omega) (by first | assumption | omega) (kc := 0) (ks := 0)) hdp (st := []) (Nat.le_of_ble_eq_true rfl) rfl (kr_I fun v4 w4 hv4 hw4 => ?_) kx_I
      obtain ⟨hR4, hFc4⟩ := hw4
      obtain ⟨h19_4, h20_4, h21_4, h22_4, hbb_4, hbl_4, hb3_4⟩ := hR4
      have hF4 := hF.tr hFc4
      subst hv4
      show J X mX8_share d kc ks 28 [some (.ref 19), some (.int (nI q2)), some (.int a), none, none, none] [.int (nI 1)] w4 _
      refine J_if_eqN (pc := 28) (tgt := 33) dX8_share_28 (by decide) (by decide) (fun h => absurd h (by decide)) (fun _ => ?_)
      refine J_iconst (pc := 31) (v := nI 0) dX8_share_31 (by decide) ?_
      exact J_iret (pc := 32) dX8_share_32 rfl ⟨trivial, ⟨rw, nx, b, bt, kn, en, nI (tW 1 0), ⟨h19_4, h20_4, h21_4, h22_4, hbb_4, hbl_4, hb3_4⟩, hF4, gr, gx, (by first | assumption | exact KX_i (by assumption) (by omega) (by first | rfl | assumption))⟩⟩
  · refine J_if_neN (pc := 5) (tgt := 12) dX8_share_5 (by decide) (by decide) (fun _ => ?_) (fun h => absurd h (by decide))
    refine J_iconst (pc := 12) (v := nI 0) dX8_share_12 (by decide) ?_
    refine J_iload_n (pc := 13) dX8_share_13 rfl rfl ?_
    refine J_callS0 (pc := 14) (M := mX8_share) (as := [.int s]) dX8_share_14 fw_X8_isSet fl_X8_134 fs_X8_isSet rfl (c_X8_isSet hs (d := d - 1) (Nat.le_trans (by decide) hdm) (w := w) s (kc := 0) (ks := 0)) hdp (st := [.int (nI 0), .ref 19]) (Nat.le_of_ble_eq_true rfl) rfl (kr_P fun v5 hv5 => ?_) kx_I
    rcases hv5 with ⟨rfl, hk5_0⟩ | ⟨q5, rfl, hk5_0, rfl⟩
    · refine J_if_neN (pc := 17) (tgt := 24) dX8_share_17 (by decide) (by decide) (fun h => absurd h (by decide)) (fun _ => ?_)
      refine J_iconst (pc := 20) (v := nI 1) dX8_share_20 (by decide) ?_
      refine J_goto (pc := 21) (tgt := 25) dX8_share_21 (by decide) ?_
      refine J_callV0 (pc := 25) (M := mX8_share) (as := [.int (nI 0), .int (nI 1)]) dX8_share_25 fw_X8_isThrown fl_X8_35 fm_X8_isThrown fe_X8_isThrown h19 (by decide) rfl rfl rfl (c_X8_isThrown hs (d := d - 1) (Nat.le_trans (by decide) hdm) (w := w) (n := n) (mv := mv) (rw := rw) (nx := nx) (b := b) (bt := bt) (kn := kn) (en := en) (dn := dn) (rf := rf) (kk := kk) (th := th) ⟨h19, h20, h21, h22, hbb, hbl, hb3⟩ hn1 hn2 gm gr gx 0 1 (by first | assumption | omega) (by first | assumption | omega) (kc := 0) (ks := 0)) hdp (st := []) (Nat.le_of_ble_eq_true rfl) rfl (kr_I fun v6 w6 hv6 hw6 => ?_) kx_I
      obtain ⟨hR6, hFc6⟩ := hw6
      obtain ⟨h19_6, h20_6, h21_6, h22_6, hbb_6, hbl_6, hb3_6⟩ := hR6
      have hF6 := hF.tr hFc6
      subst hv6
      show J X mX8_share d kc ks 28 [some (.ref 19), some (.int s), some (.int (nI q1)), none, none, none] [.int (nI 1)] w6 _
      refine J_if_eqN (pc := 28) (tgt := 33) dX8_share_28 (by decide) (by decide) (fun h => absurd h (by decide)) (fun _ => ?_)
      refine J_iconst (pc := 31) (v := nI 0) dX8_share_31 (by decide) ?_
      exact J_iret (pc := 32) dX8_share_32 rfl ⟨trivial, ⟨rw, nx, b, bt, kn, en, nI (tW 0 1), ⟨h19_6, h20_6, h21_6, h22_6, hbb_6, hbl_6, hb3_6⟩, hF6, gr, gx, (by first | assumption | exact KX_i (by assumption) (by omega) (by first | rfl | assumption))⟩⟩
    · refine J_if_neN (pc := 17) (tgt := 24) dX8_share_17 (by decide) (by decide) (fun _ => ?_) (fun h => absurd h (by decide))
      refine J_iconst (pc := 24) (v := nI 0) dX8_share_24 (by decide) ?_
      refine J_callV0 (pc := 25) (M := mX8_share) (as := [.int (nI 0), .int (nI 0)]) dX8_share_25 fw_X8_isThrown fl_X8_35 fm_X8_isThrown fe_X8_isThrown h19 (by decide) rfl rfl rfl (c_X8_isThrown hs (d := d - 1) (Nat.le_trans (by decide) hdm) (w := w) (n := n) (mv := mv) (rw := rw) (nx := nx) (b := b) (bt := bt) (kn := kn) (en := en) (dn := dn) (rf := rf) (kk := kk) (th := th) ⟨h19, h20, h21, h22, hbb, hbl, hb3⟩ hn1 hn2 gm gr gx 0 0 (by first | assumption | omega) (by first | assumption | omega) (kc := 0) (ks := 0)) hdp (st := []) (Nat.le_of_ble_eq_true rfl) rfl (kr_I fun v7 w7 hv7 hw7 => ?_) kx_I
      obtain ⟨hR7, hFc7⟩ := hw7
      obtain ⟨h19_7, h20_7, h21_7, h22_7, hbb_7, hbl_7, hb3_7⟩ := hR7
      have hF7 := hF.tr hFc7
      subst hv7
      show J X mX8_share d kc ks 28 [some (.ref 19), some (.int (nI q5)), some (.int (nI q1)), none, none, none] [.int (nI 0)] w7 _
      refine J_if_eqN (pc := 28) (tgt := 33) dX8_share_28 (by decide) (by decide) (fun _ => ?_) (fun h => absurd h (by decide))
      refine J_aload_n (pc := 33) dX8_share_33 rfl rfl rfl ?_
      refine J_iload_n (pc := 34) dX8_share_34 rfl rfl ?_
      refine J_callV (pc := 35) (M := mX8_share) (as := [.int (nI q5)]) dX8_share_35 fw_X8_group fl_X8_99 fm_X8_group fe_X8_group h19_7 (by decide) rfl rfl rfl (c_X8_group_ate hs (d := d - 1) (Nat.le_trans (by decide) hdm) (w := w7) (n := n) (mv := mv) (rw := rw) (nx := nx) (b := b) (bt := bt) (kn := kn) (en := en) (dn := dn) (rf := rf) (kk := kk) (th := nI (tW 0 0)) ⟨h19_7, h20_7, h21_7, h22_7, hbb_7, hbl_7, hb3_7⟩ hn1 hn2 gm gr gx q5 (by first | assumption | omega) (by first | assumption | omega) (by first | assumption | omega) (kc := 13) (ks := 2054) (Nat.le_refl _) (Nat.le_refl _)) hdp (by omega) (by omega) (st := []) (Nat.le_of_ble_eq_true rfl) rfl (kr_V fun w8 hw8 => ?_) kx_V
      obtain ⟨rw8, nx8, b8, bt8, kn8, en8, hR8, hFc8, hgrw8, hgnx8, hp8_0, hp8_1⟩ := hw8
      obtain ⟨h19_8, h20_8, h21_8, h22_8, hbb_8, hbl_8, hb3_8⟩ := hR8
      have qd8 := hFc8.2.1
      have hF8 := hF7.tr hFc8
      refine J_aload_n (pc := 38) dX8_share_38 rfl rfl rfl ?_
      refine J_aload_n (pc := 39) dX8_share_39 rfl rfl rfl ?_
      refine J_get (pc := 40) (k := 1) dX8_share_40 kC9 (by decide) ff_X8_13 h19_8 rfl ?_
      refine J_iload_n (pc := 43) dX8_share_43 rfl rfl ?_
      refine J_bipush (pc := 44) (v := nI 7) dX8_share_44 (by decide) ?_
      refine J_imulN (pc := 46) dX8_share_46 ?_
      refine J_callV0 (pc := 47) (M := mX8_share) (as := [.ref 20, .int (nI (q1 * 7))]) dX8_share_47 fw_X8_numberOf fl_X8_45 fm_X8_numberOf fe_X8_numberOf h19_8 (by decide) rfl rfl rfl (c_X8_numberOf_at20 hs (d := d - 1) (Nat.le_trans (by decide) hdm) (w := w8) (n := n) (mv := mv) (rw := rw8) (nx := nx8) (b := b8) (bt := bt8) (kn := kn8) (en := en8) (dn := dn) (rf := rf) (kk := kk) (th := nI (tW 0 0)) ⟨h19_8, h20_8, h21_8, h22_8, hbb_8, hbl_8, hb3_8⟩ hn1 hn2 gm hgrw8 hgnx8 (q1 * 7) (by first | assumption | omega) (kc := 0) (ks := 0)) hdp (st := []) (Nat.le_of_ble_eq_true rfl) rfl (kr_P fun v9 hv9 => ?_) kx_I
      subst hv9
      have hq10 := nuF_b mv (q1 * 7) n
      refine J_istore_n (pc := 50) dX8_share_50 rfl (by decide) rfl ?_
      show J X mX8_share d (kc - 13) (ks - 2054) 51 [some (.ref 19), some (.int (nI q5)), some (.int (nI q1)), some (.int (nI (nuF mv (q1 * 7) n n))), none, none] [] w8 _
      refine J_aload_n (pc := 51) dX8_share_51 rfl rfl rfl ?_
      refine J_iconst (pc := 52) (v := nI 0) dX8_share_52 (by decide) ?_
      refine J_callV0 (pc := 53) (M := mX8_share) (as := [.int (nI 0)]) dX8_share_53 fw_X8_from fl_X8_137 fm_X8_from fe_X8_from h19_8 (by decide) rfl rfl rfl (c_X8_from_atm hs (d := d - 1) (Nat.le_trans (by decide) hdm) (w := w8) (n := n) (mv := mv) (rw := rw8) (nx := nx8) (b := b8) (bt := bt8) (kn := kn8) (en := en8) (dn := dn) (rf := rf) (kk := kk) (th := nI (tW 0 0)) ⟨h19_8, h20_8, h21_8, h22_8, hbb_8, hbl_8, hb3_8⟩ hn1 hn2 gm hgrw8 hgnx8 0 (by first | assumption | omega) (kc := 0) (ks := 0)) hdp (st := []) (Nat.le_of_ble_eq_true rfl) rfl (kr_P fun v11 hv11 => ?_) kx_I
      obtain ⟨k11, rfl, hk11⟩ := hv11
      refine J_istore (pc := 56) dX8_share_56 (by decide) rfl ?_
      show J X mX8_share d (kc - 13) (ks - 2054) 58 [some (.ref 19), some (.int (nI q5)), some (.int (nI q1)), some (.int (nI (nuF mv (q1 * 7) n n))), some (.int (nI k11 + Int32.ofInt (-1))), none] [] w8 _
      have lp58_12 : ∀ (fuel : Nat) (w13 : List jC) (rw_58 : Nat → Nat) (nx_58 : Nat → Nat) (z3 : Int32) (c4 : Nat), (RM n mv rw_58 nx_58 b8 bt8 kn8 en8 dn rf kk (nI (tW 0 0)) w13) → (FR b b8 w w13) → (∀ i, rw_58 i < 7) → (∀ i, nx_58 i < 7) → (c4 ≤ fc n) → (mu (fc n) c4 < fuel) → J X mX8_share d (kc - 13) (ks - 2054) 58 [some (.ref 19), some (.int (nI q5)), some (.int (nI q1)), some (.int z3), some (.int (nI c4 + Int32.ofInt (-1))), none] [] w13 (pI (fun _ => True) (fun w' => ∃ (rw' : Nat → Nat), ∃ (nx' : Nat → Nat), ∃ (b' : Nat), ∃ (bt' : List Int32), ∃ (kn' : Int32), ∃ (en' : Int32), ∃ (th' : Int32), RM n mv rw' nx' b' bt' kn' en' dn rf kk th' w' ∧ FR b b' w w' ∧ (∀ i, rw' i < 7) ∧ (∀ i, nx' i < 7) ∧ KX n mv kn' bt')) := by
        intro fuellp58_12
        induction fuellp58_12 with
        | zero => intros; omega
        | succ fuellp58_12 ihlp58_12 =>
          intro w13 rw_58 nx_58 z3 c4 hR14 hF15 gr16 gx17 hv58_0 hf18
          obtain ⟨h19_19, h20_19, h21_19, h22_19, hb_19, hbl_19, hb3_19⟩ := hR14
          refine J_iload (pc := 58) dX8_share_58 rfl ?_
          refine J_if_ltM (pc := 60) (tgt := 137) dX8_share_60 (by decide) (by omega) (fun ht20 => ?_) (fun hf21 => ?_)
          · refine J_iload_n (pc := 137) dX8_share_137 rfl rfl ?_
            exact J_iret (pc := 138) dX8_share_138 rfl ⟨trivial, ⟨rw_58, nx_58, b8, bt8, kn8, en8, nI (tW 0 0), ⟨h19_19, h20_19, h21_19, h22_19, hb_19, hbl_19, hb3_19⟩, hF15, gr16, gx17, (by first | assumption | exact KX_i (by assumption) (by omega) (by first | rfl | assumption))⟩⟩
          · rw [nI_m1 hf21]
            refine J_aload_n (pc := 63) dX8_share_63 rfl rfl rfl ?_
            refine J_iload (pc := 64) dX8_share_64 rfl ?_
            refine J_aload_n (pc := 66) dX8_share_66 rfl rfl rfl ?_
            refine J_get (pc := 67) (k := 2) dX8_share_67 kC9 (by decide) ff_X8_17 h19_19 rfl ?_
            refine J_callV0 (pc := 70) (M := mX8_share) (as := [.int (nI (c4 - 1)), .ref 21]) dX8_share_70 fw_X8_rowOf fl_X8_78 fm_X8_rowOf fe_X8_rowOf h19_19 (by decide) rfl rfl rfl (c_X8_rowOf hs (d := d - 1) (Nat.le_trans (by decide) hdm) (w := w13) (n := n) (mv := mv) (rw := rw_58) (nx := nx_58) (b := b8) (bt := bt8) (kn := kn8) (en := en8) (dn := dn) (rf := rf) (kk := kk) (th := nI (tW 0 0)) ⟨h19_19, h20_19, h21_19, h22_19, hb_19, hbl_19, hb3_19⟩ hn1 hn2 gm gr16 gx17 (c4 - 1) (by first | assumption | omega) (kc := 0) (ks := 0)) hdp (st := []) (Nat.le_of_ble_eq_true rfl) rfl (kr_V fun w22 hw22 => ?_) kx_V
            obtain ⟨rw22, hR22, hFc22, hgrw22, hp22_0⟩ := hw22
            obtain ⟨h19_22, h20_22, h21_22, h22_22, hbb_22, hbl_22, hb3_22⟩ := hR22
            have hF22 := hF15.tr hFc22
            refine J_iconst (pc := 73) (v := nI 0) dX8_share_73 (by decide) ?_
            refine J_istore (pc := 74) dX8_share_74 (by decide) rfl ?_
            show J X mX8_share d (kc - 13) (ks - 2054) 76 [some (.ref 19), some (.int (nI q5)), some (.int (nI q1)), some (.int z3), some (.int (nI (c4 - 1))), some (.int (nI 0))] [] w22 _
            have lp76_23 : ∀ (fuel : Nat) (w24 : List jC) (nx_76 : Nat → Nat) (c5 : Nat), (RM n mv rw22 nx_76 b8 bt8 kn8 en8 dn rf kk (nI (tW 0 0)) w24) → (FR b b8 w w24) → (∀ i, nx_76 i < 7) → (c5 ≤ n) → (n - c5 < fuel) → J X mX8_share d (kc - 13) (ks - 2054) 76 [some (.ref 19), some (.int (nI q5)), some (.int (nI q1)), some (.int z3), some (.int (nI (c4 - 1))), some (.int (nI c5))] [] w24 (pI (fun _ => True) (fun w' => ∃ (rw' : Nat → Nat), ∃ (nx' : Nat → Nat), ∃ (b' : Nat), ∃ (bt' : List Int32), ∃ (kn' : Int32), ∃ (en' : Int32), ∃ (th' : Int32), RM n mv rw' nx' b' bt' kn' en' dn rf kk th' w' ∧ FR b b' w w' ∧ (∀ i, rw' i < 7) ∧ (∀ i, nx' i < 7) ∧ KX n mv kn' bt')) := by
              intro fuellp76_23
              induction fuellp76_23 with
              | zero => intros; omega
              | succ fuellp76_23 ihlp76_23 =>
                intro w24 nx_76 c5 hR25 hF26 gx27 hv76_0 hf28
                obtain ⟨h19_29, h20_29, h21_29, h22_29, hb_29, hbl_29, hb3_29⟩ := hR25
                refine J_iload (pc := 76) dX8_share_76 rfl ?_
                refine J_aload_n (pc := 78) dX8_share_78 rfl rfl rfl ?_
                refine J_get (pc := 79) (k := 0) dX8_share_79 kC9 (by decide) ff_X8_7 h19_29 rfl ?_
                refine J_icmp_geN (pc := 82) (tgt := 110) dX8_share_82 (by decide) (by omega) (by omega) (fun ht30 => ?_) (fun hf31 => ?_)
                · refine J_iload_n (pc := 110) dX8_share_110 rfl rfl ?_
                  refine J_aload_n (pc := 111) dX8_share_111 rfl rfl rfl ?_
                  refine J_aload_n (pc := 112) dX8_share_112 rfl rfl rfl ?_
                  refine J_get (pc := 113) (k := 3) dX8_share_113 kC9 (by decide) ff_X8_20 h19_29 rfl ?_
                  refine J_iconst (pc := 116) (v := nI 0) dX8_share_116 (by decide) ?_
                  refine J_callV0 (pc := 117) (M := mX8_share) (as := [.ref 22, .int (nI 0)]) dX8_share_117 fw_X8_numberOf fl_X8_45 fm_X8_numberOf fe_X8_numberOf h19_29 (by decide) rfl rfl rfl (c_X8_numberOf_at22 hs (d := d - 1) (Nat.le_trans (by decide) hdm) (w := w24) (n := n) (mv := mv) (rw := rw22) (nx := nx_76) (b := b8) (bt := bt8) (kn := kn8) (en := en8) (dn := dn) (rf := rf) (kk := kk) (th := nI (tW 0 0)) ⟨h19_29, h20_29, h21_29, h22_29, hb_29, hbl_29, hb3_29⟩ hn1 hn2 gm hgrw22 gx27 0 (by first | assumption | omega) (kc := 0) (ks := 0)) hdp (st := [.int z3]) (Nat.le_of_ble_eq_true rfl) rfl (kr_P fun v32 hv32 => ?_) kx_I
                  subst hv32
                  have hq33 := nuF_b nx_76 0 n
                  refine J_callS0 (pc := 120) (M := mX8_share) (as := [.int z3, .int (nI (nuF nx_76 0 n n))]) dX8_share_120 fw_J9_min_7cf53 fl_X8_212 fs_J9_min_7cf53 rfl (c_J9_min_7cf53 hs (d := d - 1) (Nat.le_trans (by decide) hdm) (w := w24) z3 (nI (nuF nx_76 0 n n)) (kc := 0) (ks := 0)) hdp (st := []) (Nat.le_of_ble_eq_true rfl) rfl (kr_P fun v34 hv34 => ?_) kx_I
                  refine J_istore_n (pc := 123) dX8_share_123 rfl (by decide) rfl ?_
                  show J X mX8_share d (kc - 13) (ks - 2054) 124 [some (.ref 19), some (.int (nI q5)), some (.int (nI q1)), some (.int v34), some (.int (nI (c4 - 1))), some (.int (nI c5))] [] w24 _
                  refine J_aload_n (pc := 124) dX8_share_124 rfl rfl rfl ?_
                  refine J_iload (pc := 125) dX8_share_125 rfl ?_
                  refine J_iconst (pc := 127) (v := nI 1) dX8_share_127 (by decide) ?_
                  refine J_iaddN (pc := 128) dX8_share_128 ?_
                  refine J_callV0 (pc := 129) (M := mX8_share) (as := [.int (nI ((c4 - 1) + 1))]) dX8_share_129 fw_X8_from fl_X8_137 fm_X8_from fe_X8_from h19_29 (by decide) rfl rfl rfl (c_X8_from_atm hs (d := d - 1) (Nat.le_trans (by decide) hdm) (w := w24) (n := n) (mv := mv) (rw := rw22) (nx := nx_76) (b := b8) (bt := bt8) (kn := kn8) (en := en8) (dn := dn) (rf := rf) (kk := kk) (th := nI (tW 0 0)) ⟨h19_29, h20_29, h21_29, h22_29, hb_29, hbl_29, hb3_29⟩ hn1 hn2 gm hgrw22 gx27 ((c4 - 1) + 1) (by first | assumption | omega) (kc := 0) (ks := 0)) hdp (st := []) (Nat.le_of_ble_eq_true rfl) rfl (kr_P fun v35 hv35 => ?_) kx_I
                  obtain ⟨k35, rfl, hk35⟩ := hv35
                  refine J_istore (pc := 132) dX8_share_132 (by decide) rfl ?_
                  show J X mX8_share d (kc - 13) (ks - 2054) 134 [some (.ref 19), some (.int (nI q5)), some (.int (nI q1)), some (.int v34), some (.int (nI k35 + Int32.ofInt (-1))), some (.int (nI c5))] [] w24 _
                  refine J_goto (pc := 134) (tgt := 58) dX8_share_134 (by decide) ?_
                  exact J_sub (L' := [some (.ref 19), some (.int (nI q5)), some (.int (nI q1)), some (.int v34), some (.int (nI k35 + Int32.ofInt (-1))), none]) ⟨rfl, ⟨rfl, ⟨rfl, ⟨rfl, ⟨rfl, trivial⟩⟩⟩⟩⟩ (ihlp58_12 w24 rw22 nx_76 v34 k35 ⟨h19_29, h20_29, h21_29, h22_29, hb_29, hbl_29, hb3_29⟩ hF26 hgrw22 gx27 (by first | assumption | omega) (by exact mu_dec (by assumption) (by omega) (by omega) (by omega)))
                · refine J_aload_n (pc := 85) dX8_share_85 rfl rfl rfl ?_
                  refine J_get (pc := 86) (k := 3) dX8_share_86 kC9 (by decide) ff_X8_20 h19_29 rfl ?_
                  refine J_iload (pc := 89) dX8_share_89 rfl ?_
                  refine J_aload_n (pc := 91) dX8_share_91 rfl rfl rfl ?_
                  refine J_iload_n (pc := 92) dX8_share_92 rfl rfl ?_
                  refine J_aload_n (pc := 93) dX8_share_93 rfl rfl rfl ?_
                  refine J_get (pc := 94) (k := 2) dX8_share_94 kC9 (by decide) ff_X8_17 h19_29 rfl ?_
                  refine J_iload (pc := 97) dX8_share_97 rfl ?_
                  refine J_ialdF (pc := 99) dX8_share_99 h21_29 (by omega) (by decide) ?_
                  have hq36 := hgrw22 c5
                  refine J_callV0 (pc := 100) (M := mX8_share) (as := [.int (nI q1), .int (nI (rw22 c5))]) dX8_share_100 fw_X8_at fl_X8_82 fm_X8_at fe_X8_at h19_29 (by decide) rfl rfl rfl (c_X8_at hs (d := d - 1) (Nat.le_trans (by decide) hdm) (w := w24) (n := n) (mv := mv) (rw := rw22) (nx := nx_76) (b := b8) (bt := bt8) (kn := kn8) (en := en8) (dn := dn) (rf := rf) (kk := kk) (th := nI (tW 0 0)) ⟨h19_29, h20_29, h21_29, h22_29, hb_29, hbl_29, hb3_29⟩ hn1 hn2 gm hgrw22 gx27 q1 (rw22 c5) (by first | assumption | omega) (by first | assumption | omega) (kc := 0) (ks := 0)) hdp (st := [.int (nI c5), .ref 22]) (Nat.le_of_ble_eq_true rfl) rfl (kr_P fun v37 hv37 => ?_) kx_I
                  subst hv37
                  have hq38 := gm (q1 * 7 + (rw22 c5))
                  refine J_iastF (pc := 103) dX8_share_103 h22_29 (by omega) (by decide) (fun w39 hln39 hc39 hne39 => ?_)
                  have hg39 : ∀ i, (up nx_76 c5 (mv (q1 * 7 + (rw22 c5)))) i < 7 := up_b gx27 (by omega)
                  have h19_39 := (hne39 19 (by decide)).trans h19_29
                  have h20_39 := (hne39 20 (by decide)).trans h20_29
                  have h21_39 := (hne39 21 (by decide)).trans h21_29
                  have hb_39 := (hne39 _ (Nat.ne_of_gt (Nat.lt_of_lt_of_le (by decide) hb3_29))).trans hb_29
                  have hF39 := hF26.st hln39 hne39 (Or.inl (by decide))
                  refine J_iincN (pc := 104) (b := 1) dX8_share_104 rfl (by decide) (by decide) rfl ?_
                  show J X mX8_share d (kc - 13) (ks - 2054) 107 [some (.ref 19), some (.int (nI q5)), some (.int (nI q1)), some (.int z3), some (.int (nI (c4 - 1))), some (.int (nI (c5 + 1)))] [] w39 _
                  refine J_goto (pc := 107) (tgt := 76) dX8_share_107 (by decide) ?_
                  exact J_sub (L' := [some (.ref 19), some (.int (nI q5)), some (.int (nI q1)), some (.int z3), some (.int (nI (c4 - 1))), some (.int (nI (c5 + 1)))]) ⟨rfl, ⟨rfl, ⟨rfl, ⟨rfl, ⟨rfl, ⟨rfl, trivial⟩⟩⟩⟩⟩⟩ (ihlp76_23 w39 (up nx_76 c5 (mv (q1 * 7 + (rw22 c5)))) (c5 + 1) ⟨h19_39, h20_39, h21_39, hc39, hb_39, hbl_29, hb3_29⟩ hF39 hg39 (by first | assumption | omega) (by omega))
            exact J_sub (L' := [some (.ref 19), some (.int (nI q5)), some (.int (nI q1)), some (.int z3), some (.int (nI (c4 - 1))), some (.int (nI 0))]) ⟨rfl, ⟨rfl, ⟨rfl, ⟨rfl, ⟨rfl, ⟨rfl, trivial⟩⟩⟩⟩⟩⟩ (lp76_23 _ w22 nx_58 0 ⟨h19_22, h20_22, h21_22, h22_22, hbb_22, hbl_22, hb3_22⟩ hF22 gx17 (by first | assumption | omega) (Nat.lt_succ_self _))
      exact J_sub (L' := [some (.ref 19), some (.int (nI q5)), some (.int (nI q1)), some (.int (nI (nuF mv (q1 * 7) n n))), some (.int (nI k11 + Int32.ofInt (-1))), none]) ⟨rfl, ⟨rfl, ⟨rfl, ⟨rfl, ⟨rfl, trivial⟩⟩⟩⟩⟩ (lp58_12 _ w8 rw8 nx8 (nI (nuF mv (q1 * 7) n n)) k11 ⟨h19_8, h20_8, h21_8, h22_8, hbb_8, hbl_8, hb3_8⟩ hF8 hgrw8 hgnx8 (by first | assumption | omega) (Nat.lt_succ_self _))
set_option maxRecDepth 100000 in
set_option maxHeartbeats 40000000 in
theorem c_X8_join {X : jX} (hs : X.1.stackTraces = false) {d : Nat} (hd : 0 ≤ d) {n : Nat} {mv rw nx : Nat → Nat} {b : Nat} {bt : List Int32} {kn en dn rf kk th : Int32} {w : List jC} (hR : RM n mv rw nx b bt kn en dn rf kk th w) (hn1 : 2 ≤ n) (hn2 : n ≤ 7) (gm : ∀ i, mv i < 7) (gr : ∀ i, rw i < 7) (gx : ∀ i, nx i < 7) (a : Nat) (c : Nat) (hy0 : a < 7) (hy1 : c < 7) {kc ks : Nat} : jMet X mX8_join d kc ks [.ref 19, .int (nI a), .int (nI c)] w (pV (fun w' => ∃ (rw' : Nat → Nat), RM n mv rw' nx b bt kn en dn rf kk th w' ∧ FR b b w w' ∧ (∀ i, rw' i < 7) ∧ ∀ p, p < n → rw' p = jn rw a c p)) := by
  refine jMet_of hs (by decide +kernel) (Nat.le_of_ble_eq_true rfl) (L := [some (.ref 19), some (.int (nI a)), some (.int (nI c)), none, none, none]) rfl ?_
  have hfc := fc_7 hn2
  have hfp := fc_pos n
  obtain ⟨h19, h20, h21, h22, hbb, hbl, hb3⟩ := hR
  have hF : FR b b w w := FR.rf
  refine J_aload_n (pc := 0) dX8_join_0 rfl rfl rfl ?_
  refine J_get (pc := 1) (k := 2) dX8_join_1 kC9 (by decide) ff_X8_17 h19 rfl ?_
  refine J_iload_n (pc := 4) dX8_join_4 rfl rfl ?_
  refine J_ialdF (pc := 5) dX8_join_5 h21 (by omega) (by decide) ?_
  have hq1 := gr a
  refine J_istore_n (pc := 6) dX8_join_6 rfl (by decide) rfl ?_
  show J X mX8_join d kc ks 7 [some (.ref 19), some (.int (nI a)), some (.int (nI c)), some (.int (nI (rw a))), none, none] [] w _
  refine J_aload_n (pc := 7) dX8_join_7 rfl rfl rfl ?_
  refine J_get (pc := 8) (k := 2) dX8_join_8 kC9 (by decide) ff_X8_17 h19 rfl ?_
  refine J_iload_n (pc := 11) dX8_join_11 rfl rfl ?_
  refine J_ialdF (pc := 12) dX8_join_12 h21 (by omega) (by decide) ?_
  have hq2 := gr c
  refine J_istore (pc := 13) dX8_join_13 (by decide) rfl ?_
  show J X mX8_join d kc ks 15 [some (.ref 19), some (.int (nI a)), some (.int (nI c)), some (.int (nI (rw a))), some (.int (nI (rw c))), none] [] w _
  refine J_iconst (pc := 15) (v := nI 0) dX8_join_15 (by decide) ?_
  refine J_istore (pc := 16) dX8_join_16 (by decide) rfl ?_
  show J X mX8_join d kc ks 18 [some (.ref 19), some (.int (nI a)), some (.int (nI c)), some (.int (nI (rw a))), some (.int (nI (rw c))), some (.int (nI 0))] [] w _
  have lp18_3 : ∀ (fuel : Nat) (w4 : List jC) (rw_18 : Nat → Nat) (c5 : Nat), (RM n mv rw_18 nx b bt kn en dn rf kk th w4) → (FR b b w w4) → (∀ i, rw_18 i < 7) → (∀ p, p < c5 → rw_18 p = jn rw a c p) → (∀ p, c5 ≤ p → rw_18 p = rw p) → (c5 ≤ n) → (n - c5 < fuel) → J X mX8_join d kc ks 18 [some (.ref 19), some (.int (nI a)), some (.int (nI c)), some (.int (nI (rw a))), some (.int (nI (rw c))), some (.int (nI c5))] [] w4 (pV (fun w' => ∃ (rw' : Nat → Nat), RM n mv rw' nx b bt kn en dn rf kk th w' ∧ FR b b w w' ∧ (∀ i, rw' i < 7) ∧ ∀ p, p < n → rw' p = jn rw a c p)) := by
    intro fuellp18_3
    induction fuellp18_3 with
    | zero => intros; omega
    | succ fuellp18_3 ihlp18_3 =>
      intro w4 rw_18 c5 hR5 hF6 gr7 hv18_0 hv18_1 hv18_2 hf8
      obtain ⟨h19_9, h20_9, h21_9, h22_9, hb_9, hbl_9, hb3_9⟩ := hR5
      refine J_iload (pc := 18) dX8_join_18 rfl ?_
      refine J_aload_n (pc := 20) dX8_join_20 rfl rfl rfl ?_
      refine J_get (pc := 21) (k := 0) dX8_join_21 kC9 (by decide) ff_X8_7 h19_9 rfl ?_
      refine J_icmp_geN (pc := 24) (tgt := 53) dX8_join_24 (by decide) (by omega) (by omega) (fun ht10 => ?_) (fun hf11 => ?_)
      · exact J_vret (pc := 53) dX8_join_53 rfl (⟨rw_18, ⟨h19_9, h20_9, h21_9, h22_9, hb_9, hbl_9, hb3_9⟩, hF6, gr7, (by intro p hp; exact hv18_0 p (by omega))⟩)
      · refine J_aload_n (pc := 27) dX8_join_27 rfl rfl rfl ?_
        refine J_get (pc := 28) (k := 2) dX8_join_28 kC9 (by decide) ff_X8_17 h19_9 rfl ?_
        refine J_iload (pc := 31) dX8_join_31 rfl ?_
        refine J_ialdF (pc := 33) dX8_join_33 h21_9 (by omega) (by decide) ?_
        have hq12 := gr7 c5
        refine J_iload (pc := 34) dX8_join_34 rfl ?_
        refine J_icmp_neN (pc := 36) (tgt := 47) dX8_join_36 (by decide) (by omega) (by omega) (fun ht13 => ?_) (fun hf14 => ?_)
        · refine J_iincN (pc := 47) (b := 1) dX8_join_47 rfl (by decide) (by decide) rfl ?_
          show J X mX8_join d kc ks 50 [some (.ref 19), some (.int (nI a)), some (.int (nI c)), some (.int (nI (rw a))), some (.int (nI (rw c))), some (.int (nI (c5 + 1)))] [] w4 _
          refine J_goto (pc := 50) (tgt := 18) dX8_join_50 (by decide) ?_
          exact J_sub (L' := [some (.ref 19), some (.int (nI a)), some (.int (nI c)), some (.int (nI (rw a))), some (.int (nI (rw c))), some (.int (nI (c5 + 1)))]) ⟨rfl, ⟨rfl, ⟨rfl, ⟨rfl, ⟨rfl, ⟨rfl, trivial⟩⟩⟩⟩⟩⟩ (ihlp18_3 w4 rw_18 (c5 + 1) ⟨h19_9, h20_9, h21_9, h22_9, hb_9, hbl_9, hb3_9⟩ hF6 gr7 (by intro p hp; by_cases q : p = c5; (subst q; have := hv18_1 p (by omega); first | (rw [up_s]; unfold jn; rw [if_pos (by omega)]) | (unfold jn; rw [if_neg (by omega)]; exact this)); (first | (rw [up_n q]; exact hv18_0 p (by omega)) | exact hv18_0 p (by omega))) (by intro p hp; first | (rw [up_n (by omega)]; exact hv18_1 p (by omega)) | exact hv18_1 p (by omega)) (by first | assumption | omega) (by omega))
        · refine J_aload_n (pc := 39) dX8_join_39 rfl rfl rfl ?_
          refine J_get (pc := 40) (k := 2) dX8_join_40 kC9 (by decide) ff_X8_17 h19_9 rfl ?_
          refine J_iload (pc := 43) dX8_join_43 rfl ?_
          refine J_iload_n (pc := 45) dX8_join_45 rfl rfl ?_
          refine J_iastF (pc := 46) dX8_join_46 h21_9 (by omega) (by decide) (fun w15 hln15 hc15 hne15 => ?_)
          have hg15 : ∀ i, (up rw_18 c5 (rw a)) i < 7 := up_b gr7 (by omega)
          have h19_15 := (hne15 19 (by decide)).trans h19_9
          have h20_15 := (hne15 20 (by decide)).trans h20_9
          have h22_15 := (hne15 22 (by decide)).trans h22_9
          have hb_15 := (hne15 _ (Nat.ne_of_gt (Nat.lt_of_lt_of_le (by decide) hb3_9))).trans hb_9
          have hF15 := hF6.st hln15 hne15 (Or.inl (by decide))
          refine J_iincN (pc := 47) (b := 1) dX8_join_47 rfl (by decide) (by decide) rfl ?_
          show J X mX8_join d kc ks 50 [some (.ref 19), some (.int (nI a)), some (.int (nI c)), some (.int (nI (rw a))), some (.int (nI (rw c))), some (.int (nI (c5 + 1)))] [] w15 _
          refine J_goto (pc := 50) (tgt := 18) dX8_join_50 (by decide) ?_
          exact J_sub (L' := [some (.ref 19), some (.int (nI a)), some (.int (nI c)), some (.int (nI (rw a))), some (.int (nI (rw c))), some (.int (nI (c5 + 1)))]) ⟨rfl, ⟨rfl, ⟨rfl, ⟨rfl, ⟨rfl, ⟨rfl, trivial⟩⟩⟩⟩⟩⟩ (ihlp18_3 w15 (up rw_18 c5 (rw a)) (c5 + 1) ⟨h19_15, h20_15, hc15, h22_15, hb_15, hbl_9, hb3_9⟩ hF15 hg15 (by intro p hp; by_cases q : p = c5; (subst q; have := hv18_1 p (by omega); first | (rw [up_s]; unfold jn; rw [if_pos (by omega)]) | (unfold jn; rw [if_neg (by omega)]; exact this)); (first | (rw [up_n q]; exact hv18_0 p (by omega)) | exact hv18_0 p (by omega))) (by intro p hp; first | (rw [up_n (by omega)]; exact hv18_1 p (by omega)) | exact hv18_1 p (by omega)) (by first | assumption | omega) (by omega))
  exact J_sub (L' := [some (.ref 19), some (.int (nI a)), some (.int (nI c)), some (.int (nI (rw a))), some (.int (nI (rw c))), some (.int (nI 0))]) ⟨rfl, ⟨rfl, ⟨rfl, ⟨rfl, ⟨rfl, ⟨rfl, trivial⟩⟩⟩⟩⟩⟩ (lp18_3 _ w rw 0 ⟨h19, h20, h21, h22, hbb, hbl, hb3⟩ hF gr (by intro p hp; omega) (by intro p hp; rfl) (by first | assumption | omega) (Nat.lt_succ_self _))
end
section
/-! contracts of the reference: rspec4 -/
set_option maxRecDepth 100000 in
set_option maxHeartbeats 40000000 in
theorem c_X8_part {X : jX} (hs : X.1.stackTraces = false) {d : Nat} (hd : 1 ≤ d) {n : Nat} {mv rw nx : Nat → Nat} {b : Nat} {bt : List Int32} {kn en dn rf kk th : Int32} {w : List jC} (hR : RM n mv rw nx b bt kn en dn rf kk th w) (hn1 : 2 ≤ n) (hn2 : n ≤ 7) (gm : ∀ i, mv i < 7) (gr : ∀ i, rw i < 7) (gx : ∀ i, nx i < 7) (s : Nat) (a : Nat) (c : Nat) (hy0 : s < 64) (hy1 : a < n) (hy2 : c < n) (hy3 : PM n mv) {kc ks : Nat} : jMet X mX8_part d kc ks [.ref 19, .int (nI s), .int (nI a), .int (nI c)] w (pV (fun w' => ∃ (rw' : Nat → Nat), RM n mv rw' nx b bt kn en dn rf kk th w' ∧ FR b b w w' ∧ (∀ i, rw' i < 7))) := by
  refine jMet_of hs (by decide +kernel) (Nat.le_of_ble_eq_true rfl) (L := [some (.ref 19), some (.int (nI s)), some (.int (nI a)), some (.int (nI c)), none, none, none, none]) rfl ?_
  have hdm : 0 ≤ d - 1 := by omega
  have hdp : d - 1 + 1 ≤ d := by omega
  have hfc := fc_7 hn2
  have hfp := fc_pos n
  obtain ⟨h19, h20, h21, h22, hbb, hbl, hb3⟩ := hR
  have hF : FR b b w w := FR.rf
  refine J_iconst (pc := 0) (v := nI 0) dX8_part_0 (by decide) ?_
  refine J_istore (pc := 1) dX8_part_1 (by decide) rfl ?_
  show J X mX8_part d kc ks 3 [some (.ref 19), some (.int (nI s)), some (.int (nI a)), some (.int (nI c)), some (.int (nI 0)), none, none, none] [] w _
  have lp3_1 : ∀ (fuel : Nat) (w2 : List jC) (rw_3 : Nat → Nat) (c4 : Nat), (RM n mv rw_3 nx b bt kn en dn rf kk th w2) → (FR b b w w2) → (∀ i, rw_3 i < 7) → (c4 ≤ n) → (n - c4 < fuel) → J X mX8_part d kc ks 3 [some (.ref 19), some (.int (nI s)), some (.int (nI a)), some (.int (nI c)), some (.int (nI c4)), none, none, none] [] w2 (pV (fun w' => ∃ (rw' : Nat → Nat), RM n mv rw' nx b bt kn en dn rf kk th w' ∧ FR b b w w' ∧ (∀ i, rw' i < 7))) := by
    intro fuellp3_1
    induction fuellp3_1 with
    | zero => intros; omega
    | succ fuellp3_1 ihlp3_1 =>
      intro w2 rw_3 c4 hR3 hF4 gr5 hv3_0 hf6
      obtain ⟨h19_7, h20_7, h21_7, h22_7, hb_7, hbl_7, hb3_7⟩ := hR3
      refine J_iload (pc := 3) dX8_part_3 rfl ?_
      refine J_aload_n (pc := 5) dX8_part_5 rfl rfl rfl ?_
      refine J_get (pc := 6) (k := 0) dX8_part_6 kC9 (by decide) ff_X8_7 h19_7 rfl ?_
      refine J_icmp_geN (pc := 9) (tgt := 27) dX8_part_9 (by decide) (by omega) (by omega) (fun ht8 => ?_) (fun hf9 => ?_)
      · refine J_aload_n (pc := 27) dX8_part_27 rfl rfl rfl ?_
        refine J_iload_n (pc := 28) dX8_part_28 rfl rfl ?_
        refine J_iload_n (pc := 29) dX8_part_29 rfl rfl ?_
        refine J_callV0 (pc := 30) (M := mX8_part) (as := [.int (nI a), .int (nI c)]) dX8_part_30 fw_X8_join fl_X8_217 fm_X8_join fe_X8_join h19_7 (by decide) rfl rfl rfl (c_X8_join hs (d := d - 1) (Nat.le_trans (by decide) hdm) (w := w2) (n := n) (mv := mv) (rw := rw_3) (nx := nx) (b := b) (bt := bt) (kn := kn) (en := en) (dn := dn) (rf := rf) (kk := kk) (th := th) ⟨h19_7, h20_7, h21_7, h22_7, hb_7, hbl_7, hb3_7⟩ hn1 hn2 gm gr5 gx a c (by first | assumption | omega) (by first | assumption | omega) (kc := 0) (ks := 0)) hdp (st := []) (Nat.le_of_ble_eq_true rfl) rfl (kr_V fun w10 hw10 => ?_) kx_V
        obtain ⟨rw10, hR10, hFc10, hgrw10, hp10_0⟩ := hw10
        obtain ⟨h19_10, h20_10, h21_10, h22_10, hbb_10, hbl_10, hb3_10⟩ := hR10
        have hF10 := hF4.tr hFc10
        refine J_iconst (pc := 33) (v := nI 1) dX8_part_33 (by decide) ?_
        refine J_istore (pc := 34) dX8_part_34 (by decide) rfl ?_
        show J X mX8_part d kc ks 36 [some (.ref 19), some (.int (nI s)), some (.int (nI a)), some (.int (nI c)), some (.int (nI 1)), none, none, none] [] w10 _
        have lp36_11 : ∀ (fuel : Nat) (w12 : List jC) (rw_36 : Nat → Nat) (u4 : Nat), (RM n mv rw_36 nx b bt kn en dn rf kk th w12) → (FR b b w w12) → (∀ i, rw_36 i < 7) → (u4 < 2) → (2 * Dn n rw_36 + u4 < fuel) → J X mX8_part d kc ks 36 [some (.ref 19), some (.int (nI s)), some (.int (nI a)), some (.int (nI c)), some (.int (nI u4)), none, none, none] [] w12 (pV (fun w' => ∃ (rw' : Nat → Nat), RM n mv rw' nx b bt kn en dn rf kk th w' ∧ FR b b w w' ∧ (∀ i, rw' i < 7))) := by
          intro fuellp36_11
          induction fuellp36_11 with
          | zero => intros; omega
          | succ fuellp36_11 ihlp36_11 =>
            intro w12 rw_36 u4 hR13 hF14 gr15 hv36_0 hf16
            obtain ⟨h19_17, h20_17, h21_17, h22_17, hb_17, hbl_17, hb3_17⟩ := hR13
            refine J_iload (pc := 36) dX8_part_36 rfl ?_
            refine J_if_eqN (pc := 38) (tgt := 178) dX8_part_38 (by decide) (by omega) (fun ht18 => ?_) (fun hf19 => ?_)
            · exact J_vret (pc := 178) dX8_part_178 rfl (⟨rw_36, ⟨h19_17, h20_17, h21_17, h22_17, hb_17, hbl_17, hb3_17⟩, hF14, gr15⟩)
            · refine J_iconst (pc := 41) (v := nI 0) dX8_part_41 (by decide) ?_
              refine J_istore (pc := 42) dX8_part_42 (by decide) rfl ?_
              show J X mX8_part d kc ks 44 [some (.ref 19), some (.int (nI s)), some (.int (nI a)), some (.int (nI c)), some (.int (nI 0)), none, none, none] [] w12 _
              refine J_iconst (pc := 44) (v := nI 0) dX8_part_44 (by decide) ?_
              refine J_istore (pc := 45) dX8_part_45 (by decide) rfl ?_
              show J X mX8_part d kc ks 47 [some (.ref 19), some (.int (nI s)), some (.int (nI a)), some (.int (nI c)), some (.int (nI 0)), some (.int (nI 0)), none, none] [] w12 _
              have lp47_20 : ∀ (fuel : Nat) (w21 : List jC) (rw_47 : Nat → Nat) (v4 : Nat) (c5 : Nat), (RM n mv rw_47 nx b bt kn en dn rf kk th w21) → (FR b b w w21) → (∀ i, rw_47 i < 7) → (v4 < 2) → (Dn n rw_47 ≤ Dn n rw_36) → (v4 = 1 → Dn n rw_47 < Dn n rw_36) → (c5 ≤ 6) → (6 - c5 < fuel) → J X mX8_part d kc ks 47 [some (.ref 19), some (.int (nI s)), some (.int (nI a)), some (.int (nI c)), some (.int (nI v4)), some (.int (nI c5)), none, none] [] w21 (pV (fun w' => ∃ (rw' : Nat → Nat), RM n mv rw' nx b bt kn en dn rf kk th w' ∧ FR b b w w' ∧ (∀ i, rw' i < 7))) := by
                intro fuellp47_20
                induction fuellp47_20 with
                | zero => intros; omega
                | succ fuellp47_20 ihlp47_20 =>
                  intro w21 rw_47 v4 c5 hR22 hF23 gr24 hv47_0 hv47_1 hv47_2 hv47_3 hf25
                  obtain ⟨h19_26, h20_26, h21_26, h22_26, hb_26, hbl_26, hb3_26⟩ := hR22
                  refine J_iload (pc := 47) dX8_part_47 rfl ?_
                  refine J_bipush (pc := 49) (v := nI 6) dX8_part_49 (by decide) ?_
                  refine J_icmp_geN (pc := 51) (tgt := 175) dX8_part_51 (by decide) (by omega) (by omega) (fun ht27 => ?_) (fun hf28 => ?_)
                  · refine J_goto (pc := 175) (tgt := 36) dX8_part_175 (by decide) ?_
                    exact J_sub (L' := [some (.ref 19), some (.int (nI s)), some (.int (nI a)), some (.int (nI c)), some (.int (nI v4)), none, none, none]) ⟨rfl, ⟨rfl, ⟨rfl, ⟨rfl, ⟨rfl, trivial⟩⟩⟩⟩⟩ (ihlp36_11 w21 rw_47 v4 ⟨h19_26, h20_26, h21_26, h22_26, hb_26, hbl_26, hb3_26⟩ hF23 gr24 (by first | assumption | omega) (by omega))
                  · refine J_iload_n (pc := 54) dX8_part_54 rfl rfl ?_
                    refine J_iload (pc := 55) dX8_part_55 rfl ?_
                    refine J_ishrN (pc := 57) dX8_part_57 (by omega) (by omega) ?_
                    refine J_iconst (pc := 58) (v := nI 1) dX8_part_58 (by decide) ?_
                    have hm29 := Nat.mod_lt (s / 2 ^ c5) (show 0 < 2 ^ 1 by decide)
                    have hm30 := Nat.div_le_self s (2 ^ c5)
                    refine J_iandN (pc := 59) 1 dX8_part_59 (by omega) (by decide) ?_
                    refine J_if_neN (pc := 60) (tgt := 66) dX8_part_60 (by decide) (by omega) (fun ht31 => ?_) (fun hf32 => ?_)
                    · refine J_iconst (pc := 66) (v := nI 0) dX8_part_66 (by decide) ?_
                      refine J_istore (pc := 67) dX8_part_67 (by decide) rfl ?_
                      show J X mX8_part d kc ks 69 [some (.ref 19), some (.int (nI s)), some (.int (nI a)), some (.int (nI c)), some (.int (nI v4)), some (.int (nI c5)), some (.int (nI 0)), none] [] w21 _
                      have lp69_33 : ∀ (fuel : Nat) (w34 : List jC) (rw_69 : Nat → Nat) (s4 : Nat) (c6 : Nat), (RM n mv rw_69 nx b bt kn en dn rf kk th w34) → (FR b b w w34) → (∀ i, rw_69 i < 7) → (s4 < 2) → (Dn n rw_69 ≤ Dn n rw_36) → (s4 = 1 → Dn n rw_69 < Dn n rw_36) → (c6 ≤ n) → (n - c6 < fuel) → J X mX8_part d kc ks 69 [some (.ref 19), some (.int (nI s)), some (.int (nI a)), some (.int (nI c)), some (.int (nI s4)), some (.int (nI c5)), some (.int (nI c6)), none] [] w34 (pV (fun w' => ∃ (rw' : Nat → Nat), RM n mv rw' nx b bt kn en dn rf kk th w' ∧ FR b b w w' ∧ (∀ i, rw' i < 7))) := by
                        intro fuellp69_33
                        induction fuellp69_33 with
                        | zero => intros; omega
                        | succ fuellp69_33 ihlp69_33 =>
                          intro w34 rw_69 s4 c6 hR35 hF36 gr37 hv69_0 hv69_1 hv69_2 hv69_3 hf38
                          obtain ⟨h19_39, h20_39, h21_39, h22_39, hb_39, hbl_39, hb3_39⟩ := hR35
                          refine J_iload (pc := 69) dX8_part_69 rfl ?_
                          refine J_aload_n (pc := 71) dX8_part_71 rfl rfl rfl ?_
                          refine J_get (pc := 72) (k := 0) dX8_part_72 kC9 (by decide) ff_X8_7 h19_39 rfl ?_
                          refine J_icmp_geN (pc := 75) (tgt := 169) dX8_part_75 (by decide) (by omega) (by omega) (fun ht40 => ?_) (fun hf41 => ?_)
                          · refine J_iincN (pc := 169) (b := 1) dX8_part_169 rfl (by decide) (by decide) rfl ?_
                            show J X mX8_part d kc ks 172 [some (.ref 19), some (.int (nI s)), some (.int (nI a)), some (.int (nI c)), some (.int (nI s4)), some (.int (nI (c5 + 1))), some (.int (nI c6)), none] [] w34 _
                            refine J_goto (pc := 172) (tgt := 47) dX8_part_172 (by decide) ?_
                            exact J_sub (L' := [some (.ref 19), some (.int (nI s)), some (.int (nI a)), some (.int (nI c)), some (.int (nI s4)), some (.int (nI (c5 + 1))), none, none]) ⟨rfl, ⟨rfl, ⟨rfl, ⟨rfl, ⟨rfl, ⟨rfl, trivial⟩⟩⟩⟩⟩⟩ (ihlp47_20 w34 rw_69 s4 (c5 + 1) ⟨h19_39, h20_39, h21_39, h22_39, hb_39, hbl_39, hb3_39⟩ hF36 gr37 (by first | assumption | omega) (by first | assumption | omega) (by first | assumption | omega) (by first | assumption | omega) (by omega))
                          · refine J_iconst (pc := 78) (v := nI 0) dX8_part_78 (by decide) ?_
                            refine J_istore (pc := 79) dX8_part_79 (by decide) rfl ?_
                            show J X mX8_part d kc ks 81 [some (.ref 19), some (.int (nI s)), some (.int (nI a)), some (.int (nI c)), some (.int (nI s4)), some (.int (nI c5)), some (.int (nI c6)), some (.int (nI 0))] [] w34 _
                            have lp81_42 : ∀ (fuel : Nat) (w43 : List jC) (rw_81 : Nat → Nat) (t4 : Nat) (c7 : Nat), (RM n mv rw_81 nx b bt kn en dn rf kk th w43) → (FR b b w w43) → (∀ i, rw_81 i < 7) → (t4 < 2) → (Dn n rw_81 ≤ Dn n rw_36) → (t4 = 1 → Dn n rw_81 < Dn n rw_36) → (c7 ≤ c6) → (c6 - c7 < fuel) → J X mX8_part d kc ks 81 [some (.ref 19), some (.int (nI s)), some (.int (nI a)), some (.int (nI c)), some (.int (nI t4)), some (.int (nI c5)), some (.int (nI c6)), some (.int (nI c7))] [] w43 (pV (fun w' => ∃ (rw' : Nat → Nat), RM n mv rw' nx b bt kn en dn rf kk th w' ∧ FR b b w w' ∧ (∀ i, rw' i < 7))) := by
                              intro fuellp81_42
                              induction fuellp81_42 with
                              | zero => intros; omega
                              | succ fuellp81_42 ihlp81_42 =>
                                intro w43 rw_81 t4 c7 hR44 hF45 gr46 hv81_0 hv81_1 hv81_2 hv81_3 hf47
                                obtain ⟨h19_48, h20_48, h21_48, h22_48, hb_48, hbl_48, hb3_48⟩ := hR44
                                refine J_iload (pc := 81) dX8_part_81 rfl ?_
                                refine J_iload (pc := 83) dX8_part_83 rfl ?_
                                refine J_icmp_geN (pc := 85) (tgt := 163) dX8_part_85 (by decide) (by omega) (by omega) (fun ht49 => ?_) (fun hf50 => ?_)
                                · refine J_iincN (pc := 163) (b := 1) dX8_part_163 rfl (by decide) (by decide) rfl ?_
                                  show J X mX8_part d kc ks 166 [some (.ref 19), some (.int (nI s)), some (.int (nI a)), some (.int (nI c)), some (.int (nI t4)), some (.int (nI c5)), some (.int (nI (c6 + 1))), some (.int (nI c7))] [] w43 _
                                  refine J_goto (pc := 166) (tgt := 69) dX8_part_166 (by decide) ?_
                                  exact J_sub (L' := [some (.ref 19), some (.int (nI s)), some (.int (nI a)), some (.int (nI c)), some (.int (nI t4)), some (.int (nI c5)), some (.int (nI (c6 + 1))), none]) ⟨rfl, ⟨rfl, ⟨rfl, ⟨rfl, ⟨rfl, ⟨rfl, ⟨rfl, trivial⟩⟩⟩⟩⟩⟩⟩ (ihlp69_33 w43 rw_81 t4 (c6 + 1) ⟨h19_48, h20_48, h21_48, h22_48, hb_48, hbl_48, hb3_48⟩ hF45 gr46 (by first | assumption | omega) (by first | assumption | omega) (by first | assumption | omega) (by first | assumption | omega) (by omega))
                                · refine J_aload_n (pc := 88) dX8_part_88 rfl rfl rfl ?_
                                  refine J_get (pc := 89) (k := 2) dX8_part_89 kC9 (by decide) ff_X8_17 h19_48 rfl ?_
                                  refine J_iload (pc := 92) dX8_part_92 rfl ?_
                                  refine J_ialdF (pc := 94) dX8_part_94 h21_48 (by omega) (by decide) ?_
                                  have hq51 := gr46 c6
                                  refine J_aload_n (pc := 95) dX8_part_95 rfl rfl rfl ?_
                                  refine J_get (pc := 96) (k := 2) dX8_part_96 kC9 (by decide) ff_X8_17 h19_48 rfl ?_
                                  refine J_iload (pc := 99) dX8_part_99 rfl ?_
                                  refine J_ialdF (pc := 101) dX8_part_101 h21_48 (by omega) (by decide) ?_
                                  have hq52 := gr46 c7
                                  refine J_icmp_neN (pc := 102) (tgt := 157) dX8_part_102 (by decide) (by omega) (by omega) (fun ht53 => ?_) (fun hf54 => ?_)
                                  · refine J_iincN (pc := 157) (b := 1) dX8_part_157 rfl (by decide) (by decide) rfl ?_
                                    show J X mX8_part d kc ks 160 [some (.ref 19), some (.int (nI s)), some (.int (nI a)), some (.int (nI c)), some (.int (nI t4)), some (.int (nI c5)), some (.int (nI c6)), some (.int (nI (c7 + 1)))] [] w43 _
                                    refine J_goto (pc := 160) (tgt := 81) dX8_part_160 (by decide) ?_
                                    exact J_sub (L' := [some (.ref 19), some (.int (nI s)), some (.int (nI a)), some (.int (nI c)), some (.int (nI t4)), some (.int (nI c5)), some (.int (nI c6)), some (.int (nI (c7 + 1)))]) ⟨rfl, ⟨rfl, ⟨rfl, ⟨rfl, ⟨rfl, ⟨rfl, ⟨rfl, ⟨rfl, trivial⟩⟩⟩⟩⟩⟩⟩⟩ (ihlp81_42 w43 rw_81 t4 (c7 + 1) ⟨h19_48, h20_48, h21_48, h22_48, hb_48, hbl_48, hb3_48⟩ hF45 gr46 (by first | assumption | omega) (by first | assumption | omega) (by first | assumption | omega) (by first | assumption | omega) (by omega))
                                  · refine J_aload_n (pc := 105) dX8_part_105 rfl rfl rfl ?_
                                    refine J_get (pc := 106) (k := 2) dX8_part_106 kC9 (by decide) ff_X8_17 h19_48 rfl ?_
                                    refine J_aload_n (pc := 109) dX8_part_109 rfl rfl rfl ?_
                                    refine J_iload (pc := 110) dX8_part_110 rfl ?_
                                    refine J_iload (pc := 112) dX8_part_112 rfl ?_
                                    refine J_callV0 (pc := 114) (M := mX8_part) (as := [.int (nI c5), .int (nI c6)]) dX8_part_114 fw_X8_at fl_X8_82 fm_X8_at fe_X8_at h19_48 (by decide) rfl rfl rfl (c_X8_at hs (d := d - 1) (Nat.le_trans (by decide) hdm) (w := w43) (n := n) (mv := mv) (rw := rw_81) (nx := nx) (b := b) (bt := bt) (kn := kn) (en := en) (dn := dn) (rf := rf) (kk := kk) (th := th) ⟨h19_48, h20_48, h21_48, h22_48, hb_48, hbl_48, hb3_48⟩ hn1 hn2 gm gr46 gx c5 c6 (by first | assumption | omega) (by first | assumption | omega) (kc := 0) (ks := 0)) hdp (st := [.ref 21]) (Nat.le_of_ble_eq_true rfl) rfl (kr_P fun v55 hv55 => ?_) kx_I
                                    subst hv55
                                    have hq56 := gm (c5 * 7 + c6)
                                    refine J_ialdF (pc := 117) dX8_part_117 h21_48 (by omega) (by decide) ?_
                                    have hq57 := gr46 (mv (c5 * 7 + c6))
                                    refine J_aload_n (pc := 118) dX8_part_118 rfl rfl rfl ?_
                                    refine J_get (pc := 119) (k := 2) dX8_part_119 kC9 (by decide) ff_X8_17 h19_48 rfl ?_
                                    refine J_aload_n (pc := 122) dX8_part_122 rfl rfl rfl ?_
                                    refine J_iload (pc := 123) dX8_part_123 rfl ?_
                                    refine J_iload (pc := 125) dX8_part_125 rfl ?_
                                    refine J_callV0 (pc := 127) (M := mX8_part) (as := [.int (nI c5), .int (nI c7)]) dX8_part_127 fw_X8_at fl_X8_82 fm_X8_at fe_X8_at h19_48 (by decide) rfl rfl rfl (c_X8_at hs (d := d - 1) (Nat.le_trans (by decide) hdm) (w := w43) (n := n) (mv := mv) (rw := rw_81) (nx := nx) (b := b) (bt := bt) (kn := kn) (en := en) (dn := dn) (rf := rf) (kk := kk) (th := th) ⟨h19_48, h20_48, h21_48, h22_48, hb_48, hbl_48, hb3_48⟩ hn1 hn2 gm gr46 gx c5 c7 (by first | assumption | omega) (by first | assumption | omega) (kc := 0) (ks := 0)) hdp (st := [.ref 21, .int (nI (rw_81 (mv (c5 * 7 + c6))))]) (Nat.le_of_ble_eq_true rfl) rfl (kr_P fun v58 hv58 => ?_) kx_I
                                    subst hv58
                                    have hq59 := gm (c5 * 7 + c7)
                                    refine J_ialdF (pc := 130) dX8_part_130 h21_48 (by omega) (by decide) ?_
                                    have hq60 := gr46 (mv (c5 * 7 + c7))
                                    refine J_icmp_eqN (pc := 131) (tgt := 157) dX8_part_131 (by decide) (by omega) (by omega) (fun ht61 => ?_) (fun hf62 => ?_)
                                    · refine J_iincN (pc := 157) (b := 1) dX8_part_157 rfl (by decide) (by decide) rfl ?_
                                      show J X mX8_part d kc ks 160 [some (.ref 19), some (.int (nI s)), some (.int (nI a)), some (.int (nI c)), some (.int (nI t4)), some (.int (nI c5)), some (.int (nI c6)), some (.int (nI (c7 + 1)))] [] w43 _
                                      refine J_goto (pc := 160) (tgt := 81) dX8_part_160 (by decide) ?_
                                      exact J_sub (L' := [some (.ref 19), some (.int (nI s)), some (.int (nI a)), some (.int (nI c)), some (.int (nI t4)), some (.int (nI c5)), some (.int (nI c6)), some (.int (nI (c7 + 1)))]) ⟨rfl, ⟨rfl, ⟨rfl, ⟨rfl, ⟨rfl, ⟨rfl, ⟨rfl, ⟨rfl, trivial⟩⟩⟩⟩⟩⟩⟩⟩ (ihlp81_42 w43 rw_81 t4 (c7 + 1) ⟨h19_48, h20_48, h21_48, h22_48, hb_48, hbl_48, hb3_48⟩ hF45 gr46 (by first | assumption | omega) (by first | assumption | omega) (by first | assumption | omega) (by first | assumption | omega) (by omega))
                                    · refine J_aload_n (pc := 134) dX8_part_134 rfl rfl rfl ?_
                                      refine J_aload_n (pc := 135) dX8_part_135 rfl rfl rfl ?_
                                      refine J_iload (pc := 136) dX8_part_136 rfl ?_
                                      refine J_iload (pc := 138) dX8_part_138 rfl ?_
                                      refine J_callV0 (pc := 140) (M := mX8_part) (as := [.int (nI c5), .int (nI c6)]) dX8_part_140 fw_X8_at fl_X8_82 fm_X8_at fe_X8_at h19_48 (by decide) rfl rfl rfl (c_X8_at hs (d := d - 1) (Nat.le_trans (by decide) hdm) (w := w43) (n := n) (mv := mv) (rw := rw_81) (nx := nx) (b := b) (bt := bt) (kn := kn) (en := en) (dn := dn) (rf := rf) (kk := kk) (th := th) ⟨h19_48, h20_48, h21_48, h22_48, hb_48, hbl_48, hb3_48⟩ hn1 hn2 gm gr46 gx c5 c6 (by first | assumption | omega) (by first | assumption | omega) (kc := 0) (ks := 0)) hdp (st := [.ref 19]) (Nat.le_of_ble_eq_true rfl) rfl (kr_P fun v63 hv63 => ?_) kx_I
                                      subst hv63
                                      have hq64 := gm (c5 * 7 + c6)
                                      refine J_aload_n (pc := 143) dX8_part_143 rfl rfl rfl ?_
                                      refine J_iload (pc := 144) dX8_part_144 rfl ?_
                                      refine J_iload (pc := 146) dX8_part_146 rfl ?_
                                      refine J_callV0 (pc := 148) (M := mX8_part) (as := [.int (nI c5), .int (nI c7)]) dX8_part_148 fw_X8_at fl_X8_82 fm_X8_at fe_X8_at h19_48 (by decide) rfl rfl rfl (c_X8_at hs (d := d - 1) (Nat.le_trans (by decide) hdm) (w := w43) (n := n) (mv := mv) (rw := rw_81) (nx := nx) (b := b) (bt := bt) (kn := kn) (en := en) (dn := dn) (rf := rf) (kk := kk) (th := th) ⟨h19_48, h20_48, h21_48, h22_48, hb_48, hbl_48, hb3_48⟩ hn1 hn2 gm gr46 gx c5 c7 (by first | assumption | omega) (by first | assumption | omega) (kc := 0) (ks := 0)) hdp (st := [.int (nI (mv (c5 * 7 + c6))), .ref 19]) (Nat.le_of_ble_eq_true rfl) rfl (kr_P fun v65 hv65 => ?_) kx_I
                                      subst hv65
                                      have hq66 := gm (c5 * 7 + c7)
                                      refine J_callV0 (pc := 151) (M := mX8_part) (as := [.int (nI (mv (c5 * 7 + c6))), .int (nI (mv (c5 * 7 + c7)))]) dX8_part_151 fw_X8_join fl_X8_217 fm_X8_join fe_X8_join h19_48 (by decide) rfl rfl rfl (c_X8_join hs (d := d - 1) (Nat.le_trans (by decide) hdm) (w := w43) (n := n) (mv := mv) (rw := rw_81) (nx := nx) (b := b) (bt := bt) (kn := kn) (en := en) (dn := dn) (rf := rf) (kk := kk) (th := th) ⟨h19_48, h20_48, h21_48, h22_48, hb_48, hbl_48, hb3_48⟩ hn1 hn2 gm gr46 gx (mv (c5 * 7 + c6)) (mv (c5 * 7 + c7)) (by first | assumption | omega) (by first | assumption | omega) (kc := 0) (ks := 0)) hdp (st := []) (Nat.le_of_ble_eq_true rfl) rfl (kr_V fun w67 hw67 => ?_) kx_V
                                      obtain ⟨rw67, hR67, hFc67, hgrw67, hp67_0⟩ := hw67
                                      obtain ⟨h19_67, h20_67, h21_67, h22_67, hbb_67, hbl_67, hb3_67⟩ := hR67
                                      have hF67 := hF45.tr hFc67
                                      have hDj := Dn_join hp67_0 ((hy3 c5 (by omega)).1 c6 (by omega)) ((hy3 c5 (by omega)).1 c7 (by omega)) (by assumption) (by assumption)
                                      refine J_iconst (pc := 154) (v := nI 1) dX8_part_154 (by decide) ?_
                                      refine J_istore (pc := 155) dX8_part_155 (by decide) rfl ?_
                                      show J X mX8_part d kc ks 157 [some (.ref 19), some (.int (nI s)), some (.int (nI a)), some (.int (nI c)), some (.int (nI 1)), some (.int (nI c5)), some (.int (nI c6)), some (.int (nI c7))] [] w67 _
                                      refine J_iincN (pc := 157) (b := 1) dX8_part_157 rfl (by decide) (by decide) rfl ?_
                                      show J X mX8_part d kc ks 160 [some (.ref 19), some (.int (nI s)), some (.int (nI a)), some (.int (nI c)), some (.int (nI 1)), some (.int (nI c5)), some (.int (nI c6)), some (.int (nI (c7 + 1)))] [] w67 _
                                      refine J_goto (pc := 160) (tgt := 81) dX8_part_160 (by decide) ?_
                                      exact J_sub (L' := [some (.ref 19), some (.int (nI s)), some (.int (nI a)), some (.int (nI c)), some (.int (nI 1)), some (.int (nI c5)), some (.int (nI c6)), some (.int (nI (c7 + 1)))]) ⟨rfl, ⟨rfl, ⟨rfl, ⟨rfl, ⟨rfl, ⟨rfl, ⟨rfl, ⟨rfl, trivial⟩⟩⟩⟩⟩⟩⟩⟩ (ihlp81_42 w67 rw67 1 (c7 + 1) ⟨h19_67, h20_67, h21_67, h22_67, hbb_67, hbl_67, hb3_67⟩ hF67 hgrw67 (by first | assumption | omega) (by first | assumption | omega) (by first | assumption | omega) (by first | assumption | omega) (by omega))
                            exact J_sub (L' := [some (.ref 19), some (.int (nI s)), some (.int (nI a)), some (.int (nI c)), some (.int (nI s4)), some (.int (nI c5)), some (.int (nI c6)), some (.int (nI 0))]) ⟨rfl, ⟨rfl, ⟨rfl, ⟨rfl, ⟨rfl, ⟨rfl, ⟨rfl, ⟨rfl, trivial⟩⟩⟩⟩⟩⟩⟩⟩ (lp81_42 _ w34 rw_69 s4 0 ⟨h19_39, h20_39, h21_39, h22_39, hb_39, hbl_39, hb3_39⟩ hF36 gr37 (by first | assumption | omega) (by assumption) (by assumption) (by first | assumption | omega) (Nat.lt_succ_self _))
                      exact J_sub (L' := [some (.ref 19), some (.int (nI s)), some (.int (nI a)), some (.int (nI c)), some (.int (nI v4)), some (.int (nI c5)), some (.int (nI 0)), none]) ⟨rfl, ⟨rfl, ⟨rfl, ⟨rfl, ⟨rfl, ⟨rfl, ⟨rfl, trivial⟩⟩⟩⟩⟩⟩⟩ (lp69_33 _ w21 rw_47 v4 0 ⟨h19_26, h20_26, h21_26, h22_26, hb_26, hbl_26, hb3_26⟩ hF23 gr24 (by first | assumption | omega) (by first | assumption | omega) (by first | assumption | omega) (by first | assumption | omega) (Nat.lt_succ_self _))
                    · refine J_goto (pc := 63) (tgt := 169) dX8_part_63 (by decide) ?_
                      refine J_iincN (pc := 169) (b := 1) dX8_part_169 rfl (by decide) (by decide) rfl ?_
                      show J X mX8_part d kc ks 172 [some (.ref 19), some (.int (nI s)), some (.int (nI a)), some (.int (nI c)), some (.int (nI v4)), some (.int (nI (c5 + 1))), none, none] [] w21 _
                      refine J_goto (pc := 172) (tgt := 47) dX8_part_172 (by decide) ?_
                      exact J_sub (L' := [some (.ref 19), some (.int (nI s)), some (.int (nI a)), some (.int (nI c)), some (.int (nI v4)), some (.int (nI (c5 + 1))), none, none]) ⟨rfl, ⟨rfl, ⟨rfl, ⟨rfl, ⟨rfl, ⟨rfl, trivial⟩⟩⟩⟩⟩⟩ (ihlp47_20 w21 rw_47 v4 (c5 + 1) ⟨h19_26, h20_26, h21_26, h22_26, hb_26, hbl_26, hb3_26⟩ hF23 gr24 (by first | assumption | omega) (by first | assumption | omega) (by first | assumption | omega) (by first | assumption | omega) (by omega))
              exact J_sub (L' := [some (.ref 19), some (.int (nI s)), some (.int (nI a)), some (.int (nI c)), some (.int (nI 0)), some (.int (nI 0)), none, none]) ⟨rfl, ⟨rfl, ⟨rfl, ⟨rfl, ⟨rfl, ⟨rfl, trivial⟩⟩⟩⟩⟩⟩ (lp47_20 _ w12 rw_36 0 0 ⟨h19_17, h20_17, h21_17, h22_17, hb_17, hbl_17, hb3_17⟩ hF14 gr15 (by first | assumption | omega) (by first | assumption | omega) (by first | assumption | omega) (by first | assumption | omega) (Nat.lt_succ_self _))
        exact J_sub (L' := [some (.ref 19), some (.int (nI s)), some (.int (nI a)), some (.int (nI c)), some (.int (nI 1)), none, none, none]) ⟨rfl, ⟨rfl, ⟨rfl, ⟨rfl, ⟨rfl, trivial⟩⟩⟩⟩⟩ (lp36_11 _ w10 rw10 1 ⟨h19_10, h20_10, h21_10, h22_10, hbb_10, hbl_10, hb3_10⟩ hF10 hgrw10 (by first | assumption | omega) (Nat.lt_succ_self _))
      · refine J_aload_n (pc := 12) dX8_part_12 rfl rfl rfl ?_
        refine J_get (pc := 13) (k := 2) dX8_part_13 kC9 (by decide) ff_X8_17 h19_7 rfl ?_
        refine J_iload (pc := 16) dX8_part_16 rfl ?_
        refine J_iload (pc := 18) dX8_part_18 rfl ?_
        refine J_iastF (pc := 20) dX8_part_20 h21_7 (by omega) (by decide) (fun w68 hln68 hc68 hne68 => ?_)
        have hg68 : ∀ i, (up rw_3 c4 c4) i < 7 := up_b gr5 (by omega)
        have h19_68 := (hne68 19 (by decide)).trans h19_7
        have h20_68 := (hne68 20 (by decide)).trans h20_7
        have h22_68 := (hne68 22 (by decide)).trans h22_7
        have hb_68 := (hne68 _ (Nat.ne_of_gt (Nat.lt_of_lt_of_le (by decide) hb3_7))).trans hb_7
        have hF68 := hF4.st hln68 hne68 (Or.inl (by decide))
        refine J_iincN (pc := 21) (b := 1) dX8_part_21 rfl (by decide) (by decide) rfl ?_
        show J X mX8_part d kc ks 24 [some (.ref 19), some (.int (nI s)), some (.int (nI a)), some (.int (nI c)), some (.int (nI (c4 + 1))), none, none, none] [] w68 _
        refine J_goto (pc := 24) (tgt := 3) dX8_part_24 (by decide) ?_
        exact J_sub (L' := [some (.ref 19), some (.int (nI s)), some (.int (nI a)), some (.int (nI c)), some (.int (nI (c4 + 1))), none, none, none]) ⟨rfl, ⟨rfl, ⟨rfl, ⟨rfl, ⟨rfl, trivial⟩⟩⟩⟩⟩ (ihlp3_1 w68 (up rw_3 c4 c4) (c4 + 1) ⟨h19_68, h20_68, hc68, h22_68, hb_68, hbl_7, hb3_7⟩ hF68 hg68 (by first | assumption | omega) (by omega))
  exact J_sub (L' := [some (.ref 19), some (.int (nI s)), some (.int (nI a)), some (.int (nI c)), some (.int (nI 0)), none, none, none]) ⟨rfl, ⟨rfl, ⟨rfl, ⟨rfl, ⟨rfl, trivial⟩⟩⟩⟩⟩ (lp3_1 _ w rw 0 ⟨h19, h20, h21, h22, hbb, hbl, hb3⟩ hF gr (by first | assumption | omega) (Nat.lt_succ_self _))
end
