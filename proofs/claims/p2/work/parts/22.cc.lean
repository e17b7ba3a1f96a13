/-! contracts of the reference: rspec3 -/
set_option maxRecDepth 100000 in
set_option maxHeartbeats 4000000 in
theorem c_X8_ring {X : jX} (hs : X.1.stackTraces = false) {d : Nat} (hd : 3 ≤ d) {n : Nat} {mv rw nx : Nat → Nat} {b : Nat} {bt : List Int32} {kn en dn rf kk th : Int32} {w : List jC} (hR : RM n mv rw nx b bt kn en dn rf kk th w) (hn1 : 2 ≤ n) (hn2 : n ≤ 7) (gm : ∀ i, mv i < 7) (gr : ∀ i, rw i < 7) (gx : ∀ i, nx i < 7) (a : Int32) (c : Int32) (e : Int32) (f : Int32) (hy0 : PM n mv) (hy1 : KB n kn bt) {kc ks : Nat} : jMet X mX8_ring d kc ks [.ref 19, .int a, .int c, .int e, .int f] w (pI (fun _ => True) (fun w' => ∃ (mv' : Nat → Nat), ∃ (rw' : Nat → Nat), ∃ (nx' : Nat → Nat), ∃ (kn' : Int32), ∃ (dn' : Int32), ∃ (th' : Int32), RM n mv' rw' nx' b bt kn' en dn' rf kk th' w' ∧ FR b b w w' ∧ (∀ i, mv' i < 7) ∧ (∀ i, rw' i < 7) ∧ (∀ i, nx' i < 7) ∧ PM n mv' ∧ KB n kn' bt)) := by
  refine jMet_of hs (by decide +kernel) (Nat.le_of_ble_eq_true rfl) (L := [some (.ref 19), some (.int a), some (.int c), some (.int e), some (.int f)]) rfl ?_
  have hfc := fc_7 hn2
  have hfp := fc_pos n
  obtain ⟨h19, h20, h21, h22, hbb, hbl, hb3⟩ := hR
  have hF : FR b b w w := FR.rf
  refine J_aload_n (pc := 0) dX8_ring_0 rfl rfl rfl ?_
  refine J_iload_n (pc := 1) dX8_ring_1 rfl rfl ?_
  refine J_callS0 (pc := 2) (M := mX8_ring) (as := [.int a]) dX8_ring_2 fw_X8_isCell fl_X8_108 fs_X8_isCell rfl (c_X8_isCell hs (d := d - 1) (by omega) (w := w) a (kc := 0) (ks := 0)) (by omega) (st := [.ref 19]) (Nat.le_of_ble_eq_true rfl) rfl (kr_P fun v1 hv1 => ?_) kx_I
  rcases hv1 with ⟨rfl, hk1_0⟩ | ⟨q1, rfl, hk1_0, rfl⟩
  · refine J_if_eqN (pc := 5) (tgt := 33) dX8_ring_5 (by decide) (by decide) (fun _ => ?_) (fun h => absurd h (by decide))
    refine J_iconst (pc := 33) (v := nI 1) dX8_ring_33 (by decide) ?_
    refine J_goto (pc := 34) (tgt := 38) dX8_ring_34 (by decide) ?_
    refine J_iload_n (pc := 38) dX8_ring_38 rfl rfl ?_
    refine J_iload_n (pc := 39) dX8_ring_39 rfl rfl ?_
    refine J_icmp_eq (pc := 40) (tgt := 55) dX8_ring_40 (by decide) (fun ht2 => ?_) (fun hf3 => ?_)
    · refine J_iconst (pc := 55) (v := nI 1) dX8_ring_55 (by decide) ?_
      refine J_goto (pc := 56) (tgt := 60) dX8_ring_56 (by decide) ?_
      refine J_callV0 (pc := 60) (M := mX8_ring) (as := [.int (nI 1), .int (nI 1)]) dX8_ring_60 fw_X8_isThrown fl_X8_35 fm_X8_isThrown fe_X8_isThrown h19 (by decide) rfl rfl rfl (c_X8_isThrown hs (d := d - 1) (by omega) (w := w) (n := n) (mv := mv) (rw := rw) (nx := nx) (b := b) (bt := bt) (kn := kn) (en := en) (dn := dn) (rf := rf) (kk := kk) (th := th) ⟨h19, h20, h21, h22, hbb, hbl, hb3⟩ hn1 hn2 gm gr gx 1 1 (by first | assumption | omega) (by first | assumption | omega) (kc := 0) (ks := 0)) (by omega) (st := []) (Nat.le_of_ble_eq_true rfl) rfl (kr_I fun v4 w4 hv4 hw4 => ?_) kx_I
      obtain ⟨hR4, hFc4⟩ := hw4
      obtain ⟨h19_4, h20_4, h21_4, h22_4, hbb_4, hbl_4, hb3_4⟩ := hR4
      have hF4 := hF.tr hFc4
      subst hv4
      show J X mX8_ring d kc ks 63 [some (.ref 19), some (.int a), some (.int c), some (.int e), some (.int f)] [.int (nI 1)] w4 _
      refine J_if_eqN (pc := 63) (tgt := 68) dX8_ring_63 (by decide) (by decide) (fun h => absurd h (by decide)) (fun _ => ?_)
      refine J_iconst (pc := 66) (v := nI 0) dX8_ring_66 (by decide) ?_
      exact J_iret (pc := 67) dX8_ring_67 rfl ⟨trivial, ⟨mv, rw, nx, kn, dn, nI (tW 1 1), ⟨h19_4, h20_4, h21_4, h22_4, hbb_4, hbl_4, hb3_4⟩, hF4, gm, gr, gx, (by first | assumption | exact PM_st hn2 (by assumption) (by assumption) (by assumption)), (by first | assumption | exact Or.inl rfl)⟩⟩
    · refine J_iload_n (pc := 43) dX8_ring_43 rfl rfl ?_
      refine J_iload (pc := 44) dX8_ring_44 rfl ?_
      refine J_icmp_eq (pc := 46) (tgt := 55) dX8_ring_46 (by decide) (fun ht5 => ?_) (fun hf6 => ?_)
      · refine J_iconst (pc := 55) (v := nI 1) dX8_ring_55 (by decide) ?_
        refine J_goto (pc := 56) (tgt := 60) dX8_ring_56 (by decide) ?_
        refine J_callV0 (pc := 60) (M := mX8_ring) (as := [.int (nI 1), .int (nI 1)]) dX8_ring_60 fw_X8_isThrown fl_X8_35 fm_X8_isThrown fe_X8_isThrown h19 (by decide) rfl rfl rfl (c_X8_isThrown hs (d := d - 1) (by omega) (w := w) (n := n) (mv := mv) (rw := rw) (nx := nx) (b := b) (bt := bt) (kn := kn) (en := en) (dn := dn) (rf := rf) (kk := kk) (th := th) ⟨h19, h20, h21, h22, hbb, hbl, hb3⟩ hn1 hn2 gm gr gx 1 1 (by first | assumption | omega) (by first | assumption | omega) (kc := 0) (ks := 0)) (by omega) (st := []) (Nat.le_of_ble_eq_true rfl) rfl (kr_I fun v7 w7 hv7 hw7 => ?_) kx_I
        obtain ⟨hR7, hFc7⟩ := hw7
        obtain ⟨h19_7, h20_7, h21_7, h22_7, hbb_7, hbl_7, hb3_7⟩ := hR7
        have hF7 := hF.tr hFc7
        subst hv7
        show J X mX8_ring d kc ks 63 [some (.ref 19), some (.int a), some (.int c), some (.int e), some (.int f)] [.int (nI 1)] w7 _
        refine J_if_eqN (pc := 63) (tgt := 68) dX8_ring_63 (by decide) (by decide) (fun h => absurd h (by decide)) (fun _ => ?_)
        refine J_iconst (pc := 66) (v := nI 0) dX8_ring_66 (by decide) ?_
        exact J_iret (pc := 67) dX8_ring_67 rfl ⟨trivial, ⟨mv, rw, nx, kn, dn, nI (tW 1 1), ⟨h19_7, h20_7, h21_7, h22_7, hbb_7, hbl_7, hb3_7⟩, hF7, gm, gr, gx, (by first | assumption | exact PM_st hn2 (by assumption) (by assumption) (by assumption)), (by first | assumption | exact Or.inl rfl)⟩⟩
      · refine J_iload_n (pc := 49) dX8_ring_49 rfl rfl ?_
        refine J_iload (pc := 50) dX8_ring_50 rfl ?_
        refine J_icmp_ne (pc := 52) (tgt := 59) dX8_ring_52 (by decide) (fun ht8 => ?_) (fun hf9 => ?_)
        · refine J_iconst (pc := 59) (v := nI 0) dX8_ring_59 (by decide) ?_
          refine J_callV0 (pc := 60) (M := mX8_ring) (as := [.int (nI 1), .int (nI 0)]) dX8_ring_60 fw_X8_isThrown fl_X8_35 fm_X8_isThrown fe_X8_isThrown h19 (by decide) rfl rfl rfl (c_X8_isThrown hs (d := d - 1) (by omega) (w := w) (n := n) (mv := mv) (rw := rw) (nx := nx) (b := b) (bt := bt) (kn := kn) (en := en) (dn := dn) (rf := rf) (kk := kk) (th := th) ⟨h19, h20, h21, h22, hbb, hbl, hb3⟩ hn1 hn2 gm gr gx 1 0 (by first | assumption | omega) (by first | assumption | omega) (kc := 0) (ks := 0)) (by omega) (st := []) (Nat.le_of_ble_eq_true rfl) rfl (kr_I fun v10 w10 hv10 hw10 => ?_) kx_I
          obtain ⟨hR10, hFc10⟩ := hw10
          obtain ⟨h19_10, h20_10, h21_10, h22_10, hbb_10, hbl_10, hb3_10⟩ := hR10
          have hF10 := hF.tr hFc10
          subst hv10
          show J X mX8_ring d kc ks 63 [some (.ref 19), some (.int a), some (.int c), some (.int e), some (.int f)] [.int (nI 1)] w10 _
          refine J_if_eqN (pc := 63) (tgt := 68) dX8_ring_63 (by decide) (by decide) (fun h => absurd h (by decide)) (fun _ => ?_)
          refine J_iconst (pc := 66) (v := nI 0) dX8_ring_66 (by decide) ?_
          exact J_iret (pc := 67) dX8_ring_67 rfl ⟨trivial, ⟨mv, rw, nx, kn, dn, nI (tW 1 0), ⟨h19_10, h20_10, h21_10, h22_10, hbb_10, hbl_10, hb3_10⟩, hF10, gm, gr, gx, (by first | assumption | exact PM_st hn2 (by assumption) (by assumption) (by assumption)), (by first | assumption | exact Or.inl rfl)⟩⟩
        · refine J_iconst (pc := 55) (v := nI 1) dX8_ring_55 (by decide) ?_
          refine J_goto (pc := 56) (tgt := 60) dX8_ring_56 (by decide) ?_
          refine J_callV0 (pc := 60) (M := mX8_ring) (as := [.int (nI 1), .int (nI 1)]) dX8_ring_60 fw_X8_isThrown fl_X8_35 fm_X8_isThrown fe_X8_isThrown h19 (by decide) rfl rfl rfl (c_X8_isThrown hs (d := d - 1) (by omega) (w := w) (n := n) (mv := mv) (rw := rw) (nx := nx) (b := b) (bt := bt) (kn := kn) (en := en) (dn := dn) (rf := rf) (kk := kk) (th := th) ⟨h19, h20, h21, h22, hbb, hbl, hb3⟩ hn1 hn2 gm gr gx 1 1 (by first | assumption | omega) (by first | assumption | omega) (kc := 0) (ks := 0)) (by omega) (st := []) (Nat.le_of_ble_eq_true rfl) rfl (kr_I fun v11 w11 hv11 hw11 => ?_) kx_I
          obtain ⟨hR11, hFc11⟩ := hw11
          obtain ⟨h19_11, h20_11, h21_11, h22_11, hbb_11, hbl_11, hb3_11⟩ := hR11
          have hF11 := hF.tr hFc11
          subst hv11
          show J X mX8_ring d kc ks 63 [some (.ref 19), some (.int a), some (.int c), some (.int e), some (.int f)] [.int (nI 1)] w11 _
          refine J_if_eqN (pc := 63) (tgt := 68) dX8_ring_63 (by decide) (by decide) (fun h => absurd h (by decide)) (fun _ => ?_)
          refine J_iconst (pc := 66) (v := nI 0) dX8_ring_66 (by decide) ?_
          exact J_iret (pc := 67) dX8_ring_67 rfl ⟨trivial, ⟨mv, rw, nx, kn, dn, nI (tW 1 1), ⟨h19_11, h20_11, h21_11, h22_11, hbb_11, hbl_11, hb3_11⟩, hF11, gm, gr, gx, (by first | assumption | exact PM_st hn2 (by assumption) (by assumption) (by assumption)), (by first | assumption | exact Or.inl rfl)⟩⟩
  · refine J_if_eqN (pc := 5) (tgt := 33) dX8_ring_5 (by decide) (by decide) (fun h => absurd h (by decide)) (fun _ => ?_)
    refine J_aload_n (pc := 8) dX8_ring_8 rfl rfl rfl ?_
    refine J_iload_n (pc := 9) dX8_ring_9 rfl rfl ?_
    refine J_callV0 (pc := 10) (M := mX8_ring) (as := [.int c]) dX8_ring_10 fw_X8_isPoint fl_X8_118 fm_X8_isPoint fe_X8_isPoint h19 (by decide) rfl rfl rfl (c_X8_isPoint hs (d := d - 1) (by omega) (w := w) (n := n) (mv := mv) (rw := rw) (nx := nx) (b := b) (bt := bt) (kn := kn) (en := en) (dn := dn) (rf := rf) (kk := kk) (th := th) ⟨h19, h20, h21, h22, hbb, hbl, hb3⟩ hn1 hn2 gm gr gx c (kc := 0) (ks := 0)) (by omega) (st := [.ref 19]) (Nat.le_of_ble_eq_true rfl) rfl (kr_P fun v12 hv12 => ?_) kx_I
    rcases hv12 with ⟨rfl, hk12_0⟩ | ⟨q12, rfl, hk12_0, rfl⟩
    · refine J_if_eqN (pc := 13) (tgt := 33) dX8_ring_13 (by decide) (by decide) (fun _ => ?_) (fun h => absurd h (by decide))
      refine J_iconst (pc := 33) (v := nI 1) dX8_ring_33 (by decide) ?_
      refine J_goto (pc := 34) (tgt := 38) dX8_ring_34 (by decide) ?_
      refine J_iload_n (pc := 38) dX8_ring_38 rfl rfl ?_
      refine J_iload_n (pc := 39) dX8_ring_39 rfl rfl ?_
      refine J_icmp_eq (pc := 40) (tgt := 55) dX8_ring_40 (by decide) (fun ht13 => ?_) (fun hf14 => ?_)
      · refine J_iconst (pc := 55) (v := nI 1) dX8_ring_55 (by decide) ?_
        refine J_goto (pc := 56) (tgt := 60) dX8_ring_56 (by decide) ?_
        refine J_callV0 (pc := 60) (M := mX8_ring) (as := [.int (nI 1), .int (nI 1)]) dX8_ring_60 fw_X8_isThrown fl_X8_35 fm_X8_isThrown fe_X8_isThrown h19 (by decide) rfl rfl rfl (c_X8_isThrown hs (d := d - 1) (by omega) (w := w) (n := n) (mv := mv) (rw := rw) (nx := nx) (b := b) (bt := bt) (kn := kn) (en := en) (dn := dn) (rf := rf) (kk := kk) (th := th) ⟨h19, h20, h21, h22, hbb, hbl, hb3⟩ hn1 hn2 gm gr gx 1 1 (by first | assumption | omega) (by first | assumption | omega) (kc := 0) (ks := 0)) (by omega) (st := []) (Nat.le_of_ble_eq_true rfl) rfl (kr_I fun v15 w15 hv15 hw15 => ?_) kx_I
        obtain ⟨hR15, hFc15⟩ := hw15
        obtain ⟨h19_15, h20_15, h21_15, h22_15, hbb_15, hbl_15, hb3_15⟩ := hR15
        have hF15 := hF.tr hFc15
        subst hv15
        show J X mX8_ring d kc ks 63 [some (.ref 19), some (.int (nI q1)), some (.int c), some (.int e), some (.int f)] [.int (nI 1)] w15 _
        refine J_if_eqN (pc := 63) (tgt := 68) dX8_ring_63 (by decide) (by decide) (fun h => absurd h (by decide)) (fun _ => ?_)
        refine J_iconst (pc := 66) (v := nI 0) dX8_ring_66 (by decide) ?_
        exact J_iret (pc := 67) dX8_ring_67 rfl ⟨trivial, ⟨mv, rw, nx, kn, dn, nI (tW 1 1), ⟨h19_15, h20_15, h21_15, h22_15, hbb_15, hbl_15, hb3_15⟩, hF15, gm, gr, gx, (by first | assumption | exact PM_st hn2 (by assumption) (by assumption) (by assumption)), (by first | assumption | exact Or.inl rfl)⟩⟩
      · refine J_iload_n (pc := 43) dX8_ring_43 rfl rfl ?_
        refine J_iload (pc := 44) dX8_ring_44 rfl ?_
        refine J_icmp_eq (pc := 46) (tgt := 55) dX8_ring_46 (by decide) (fun ht16 => ?_) (fun hf17 => ?_)
        · refine J_iconst (pc := 55) (v := nI 1) dX8_ring_55 (by decide) ?_
          refine J_goto (pc := 56) (tgt := 60) dX8_ring_56 (by decide) ?_
          refine J_callV0 (pc := 60) (M := mX8_ring) (as := [.int (nI 1), .int (nI 1)]) dX8_ring_60 fw_X8_isThrown fl_X8_35 fm_X8_isThrown fe_X8_isThrown h19 (by decide) rfl rfl rfl (c_X8_isThrown hs (d := d - 1) (by omega) (w := w) (n := n) (mv := mv) (rw := rw) (nx := nx) (b := b) (bt := bt) (kn := kn) (en := en) (dn := dn) (rf := rf) (kk := kk) (th := th) ⟨h19, h20, h21, h22, hbb, hbl, hb3⟩ hn1 hn2 gm gr gx 1 1 (by first | assumption | omega) (by first | assumption | omega) (kc := 0) (ks := 0)) (by omega) (st := []) (Nat.le_of_ble_eq_true rfl) rfl (kr_I fun v18 w18 hv18 hw18 => ?_) kx_I
          obtain ⟨hR18, hFc18⟩ := hw18
          obtain ⟨h19_18, h20_18, h21_18, h22_18, hbb_18, hbl_18, hb3_18⟩ := hR18
          have hF18 := hF.tr hFc18
          subst hv18
          show J X mX8_ring d kc ks 63 [some (.ref 19), some (.int (nI q1)), some (.int c), some (.int e), some (.int f)] [.int (nI 1)] w18 _
          refine J_if_eqN (pc := 63) (tgt := 68) dX8_ring_63 (by decide) (by decide) (fun h => absurd h (by decide)) (fun _ => ?_)
          refine J_iconst (pc := 66) (v := nI 0) dX8_ring_66 (by decide) ?_
          exact J_iret (pc := 67) dX8_ring_67 rfl ⟨trivial, ⟨mv, rw, nx, kn, dn, nI (tW 1 1), ⟨h19_18, h20_18, h21_18, h22_18, hbb_18, hbl_18, hb3_18⟩, hF18, gm, gr, gx, (by first | assumption | exact PM_st hn2 (by assumption) (by assumption) (by assumption)), (by first | assumption | exact Or.inl rfl)⟩⟩
        · refine J_iload_n (pc := 49) dX8_ring_49 rfl rfl ?_
          refine J_iload (pc := 50) dX8_ring_50 rfl ?_
          refine J_icmp_ne (pc := 52) (tgt := 59) dX8_ring_52 (by decide) (fun ht19 => ?_) (fun hf20 => ?_)
          · refine J_iconst (pc := 59) (v := nI 0) dX8_ring_59 (by decide) ?_
            refine J_callV0 (pc := 60) (M := mX8_ring) (as := [.int (nI 1), .int (nI 0)]) dX8_ring_60 fw_X8_isThrown fl_X8_35 fm_X8_isThrown fe_X8_isThrown h19 (by decide) rfl rfl rfl (c_X8_isThrown hs (d := d - 1) (by omega) (w := w) (n := n) (mv := mv) (rw := rw) (nx := nx) (b := b) (bt := bt) (kn := kn) (en := en) (dn := dn) (rf := rf) (kk := kk) (th := th) ⟨h19, h20, h21, h22, hbb, hbl, hb3⟩ hn1 hn2 gm gr gx 1 0 (by first | assumption | omega) (by first | assumption | omega) (kc := 0) (ks := 0)) (by omega) (st := []) (Nat.le_of_ble_eq_true rfl) rfl (kr_I fun v21 w21 hv21 hw21 => ?_) kx_I
            obtain ⟨hR21, hFc21⟩ := hw21
            obtain ⟨h19_21, h20_21, h21_21, h22_21, hbb_21, hbl_21, hb3_21⟩ := hR21
            have hF21 := hF.tr hFc21
            subst hv21
            show J X mX8_ring d kc ks 63 [some (.ref 19), some (.int (nI q1)), some (.int c), some (.int e), some (.int f)] [.int (nI 1)] w21 _
            refine J_if_eqN (pc := 63) (tgt := 68) dX8_ring_63 (by decide) (by decide) (fun h => absurd h (by decide)) (fun _ => ?_)
            refine J_iconst (pc := 66) (v := nI 0) dX8_ring_66 (by decide) ?_
            exact J_iret (pc := 67) dX8_ring_67 rfl ⟨trivial, ⟨mv, rw, nx, kn, dn, nI (tW 1 0), ⟨h19_21, h20_21, h21_21, h22_21, hbb_21, hbl_21, hb3_21⟩, hF21, gm, gr, gx, (by first | assumption | exact PM_st hn2 (by assumption) (by assumption) (by assumption)), (by first | assumption | exact Or.inl rfl)⟩⟩
          · refine J_iconst (pc := 55) (v := nI 1) dX8_ring_55 (by decide) ?_
            refine J_goto (pc := 56) (tgt := 60) dX8_ring_56 (by decide) ?_
            refine J_callV0 (pc := 60) (M := mX8_ring) (as := [.int (nI 1), .int (nI 1)]) dX8_ring_60 fw_X8_isThrown fl_X8_35 fm_X8_isThrown fe_X8_isThrown h19 (by decide) rfl rfl rfl (c_X8_isThrown hs (d := d - 1) (by omega) (w := w) (n := n) (mv := mv) (rw := rw) (nx := nx) (b := b) (bt := bt) (kn := kn) (en := en) (dn := dn) (rf := rf) (kk := kk) (th := th) ⟨h19, h20, h21, h22, hbb, hbl, hb3⟩ hn1 hn2 gm gr gx 1 1 (by first | assumption | omega) (by first | assumption | omega) (kc := 0) (ks := 0)) (by omega) (st := []) (Nat.le_of_ble_eq_true rfl) rfl (kr_I fun v22 w22 hv22 hw22 => ?_) kx_I
            obtain ⟨hR22, hFc22⟩ := hw22
            obtain ⟨h19_22, h20_22, h21_22, h22_22, hbb_22, hbl_22, hb3_22⟩ := hR22
            have hF22 := hF.tr hFc22
            subst hv22
            show J X mX8_ring d kc ks 63 [some (.ref 19), some (.int (nI q1)), some (.int c), some (.int e), some (.int f)] [.int (nI 1)] w22 _
            refine J_if_eqN (pc := 63) (tgt := 68) dX8_ring_63 (by decide) (by decide) (fun h => absurd h (by decide)) (fun _ => ?_)
            refine J_iconst (pc := 66) (v := nI 0) dX8_ring_66 (by decide) ?_
            exact J_iret (pc := 67) dX8_ring_67 rfl ⟨trivial, ⟨mv, rw, nx, kn, dn, nI (tW 1 1), ⟨h19_22, h20_22, h21_22, h22_22, hbb_22, hbl_22, hb3_22⟩, hF22, gm, gr, gx, (by first | assumption | exact PM_st hn2 (by assumption) (by assumption) (by assumption)), (by first | assumption | exact Or.inl rfl)⟩⟩
    · refine J_if_eqN (pc := 13) (tgt := 33) dX8_ring_13 (by decide) (by decide) (fun h => absurd h (by decide)) (fun _ => ?_)
      refine J_aload_n (pc := 16) dX8_ring_16 rfl rfl rfl ?_
      refine J_iload_n (pc := 17) dX8_ring_17 rfl rfl ?_
      refine J_callV0 (pc := 18) (M := mX8_ring) (as := [.int e]) dX8_ring_18 fw_X8_isPoint fl_X8_118 fm_X8_isPoint fe_X8_isPoint h19 (by decide) rfl rfl rfl (c_X8_isPoint hs (d := d - 1) (by omega) (w := w) (n := n) (mv := mv) (rw := rw) (nx := nx) (b := b) (bt := bt) (kn := kn) (en := en) (dn := dn) (rf := rf) (kk := kk) (th := th) ⟨h19, h20, h21, h22, hbb, hbl, hb3⟩ hn1 hn2 gm gr gx e (kc := 0) (ks := 0)) (by omega) (st := [.ref 19]) (Nat.le_of_ble_eq_true rfl) rfl (kr_P fun v23 hv23 => ?_) kx_I
      rcases hv23 with ⟨rfl, hk23_0⟩ | ⟨q23, rfl, hk23_0, rfl⟩
      · refine J_if_eqN (pc := 21) (tgt := 33) dX8_ring_21 (by decide) (by decide) (fun _ => ?_) (fun h => absurd h (by decide))
        refine J_iconst (pc := 33) (v := nI 1) dX8_ring_33 (by decide) ?_
        refine J_goto (pc := 34) (tgt := 38) dX8_ring_34 (by decide) ?_
        refine J_iload_n (pc := 38) dX8_ring_38 rfl rfl ?_
        refine J_iload_n (pc := 39) dX8_ring_39 rfl rfl ?_
        refine J_icmp_eq (pc := 40) (tgt := 55) dX8_ring_40 (by decide) (fun ht24 => ?_) (fun hf25 => ?_)
        · refine J_iconst (pc := 55) (v := nI 1) dX8_ring_55 (by decide) ?_
          refine J_goto (pc := 56) (tgt := 60) dX8_ring_56 (by decide) ?_
          refine J_callV0 (pc := 60) (M := mX8_ring) (as := [.int (nI 1), .int (nI 1)]) dX8_ring_60 fw_X8_isThrown fl_X8_35 fm_X8_isThrown fe_X8_isThrown h19 (by decide) rfl rfl rfl (c_X8_isThrown hs (d := d - 1) (by omega) (w := w) (n := n) (mv := mv) (rw := rw) (nx := nx) (b := b) (bt := bt) (kn := kn) (en := en) (dn := dn) (rf := rf) (kk := kk) (th := th) ⟨h19, h20, h21, h22, hbb, hbl, hb3⟩ hn1 hn2 gm gr gx 1 1 (by first | assumption | omega) (by first | assumption | omega) (kc := 0) (ks := 0)) (by omega) (st := []) (Nat.le_of_ble_eq_true rfl) rfl (kr_I fun v26 w26 hv26 hw26 => ?_) kx_I
          obtain ⟨hR26, hFc26⟩ := hw26
          obtain ⟨h19_26, h20_26, h21_26, h22_26, hbb_26, hbl_26, hb3_26⟩ := hR26
          have hF26 := hF.tr hFc26
          subst hv26
          show J X mX8_ring d kc ks 63 [some (.ref 19), some (.int (nI q1)), some (.int (nI q12)), some (.int e), some (.int f)] [.int (nI 1)] w26 _
          refine J_if_eqN (pc := 63) (tgt := 68) dX8_ring_63 (by decide) (by decide) (fun h => absurd h (by decide)) (fun _ => ?_)
          refine J_iconst (pc := 66) (v := nI 0) dX8_ring_66 (by decide) ?_
          exact J_iret (pc := 67) dX8_ring_67 rfl ⟨trivial, ⟨mv, rw, nx, kn, dn, nI (tW 1 1), ⟨h19_26, h20_26, h21_26, h22_26, hbb_26, hbl_26, hb3_26⟩, hF26, gm, gr, gx, (by first | assumption | exact PM_st hn2 (by assumption) (by assumption) (by assumption)), (by first | assumption | exact Or.inl rfl)⟩⟩
        · refine J_iload_n (pc := 43) dX8_ring_43 rfl rfl ?_
          refine J_iload (pc := 44) dX8_ring_44 rfl ?_
          refine J_icmp_eq (pc := 46) (tgt := 55) dX8_ring_46 (by decide) (fun ht27 => ?_) (fun hf28 => ?_)
          · refine J_iconst (pc := 55) (v := nI 1) dX8_ring_55 (by decide) ?_
            refine J_goto (pc := 56) (tgt := 60) dX8_ring_56 (by decide) ?_
            refine J_callV0 (pc := 60) (M := mX8_ring) (as := [.int (nI 1), .int (nI 1)]) dX8_ring_60 fw_X8_isThrown fl_X8_35 fm_X8_isThrown fe_X8_isThrown h19 (by decide) rfl rfl rfl (c_X8_isThrown hs (d := d - 1) (by omega) (w := w) (n := n) (mv := mv) (rw := rw) (nx := nx) (b := b) (bt := bt) (kn := kn) (en := en) (dn := dn) (rf := rf) (kk := kk) (th := th) ⟨h19, h20, h21, h22, hbb, hbl, hb3⟩ hn1 hn2 gm gr gx 1 1 (by first | assumption | omega) (by first | assumption | omega) (kc := 0) (ks := 0)) (by omega) (st := []) (Nat.le_of_ble_eq_true rfl) rfl (kr_I fun v29 w29 hv29 hw29 => ?_) kx_I
            obtain ⟨hR29, hFc29⟩ := hw29
            obtain ⟨h19_29, h20_29, h21_29, h22_29, hbb_29, hbl_29, hb3_29⟩ := hR29
            have hF29 := hF.tr hFc29
            subst hv29
            show J X mX8_ring d kc ks 63 [some (.ref 19), some (.int (nI q1)), some (.int (nI q12)), some (.int e), some (.int f)] [.int (nI 1)] w29 _
            refine J_if_eqN (pc := 63) (tgt := 68) dX8_ring_63 (by decide) (by decide) (fun h => absurd h (by decide)) (fun _ => ?_)
            refine J_iconst (pc := 66) (v := nI 0) dX8_ring_66 (by decide) ?_
            exact J_iret (pc := 67) dX8_ring_67 rfl ⟨trivial, ⟨mv, rw, nx, kn, dn, nI (tW 1 1), ⟨h19_29, h20_29, h21_29, h22_29, hbb_29, hbl_29, hb3_29⟩, hF29, gm, gr, gx, (by first | assumption | exact PM_st hn2 (by assumption) (by assumption) (by assumption)), (by first | assumption | exact Or.inl rfl)⟩⟩
          · refine J_iload_n (pc := 49) dX8_ring_49 rfl rfl ?_
            refine J_iload (pc := 50) dX8_ring_50 rfl ?_
            refine J_icmp_ne (pc := 52) (tgt := 59) dX8_ring_52 (by decide) (fun ht30 => ?_) (fun hf31 => ?_)
            · refine J_iconst (pc := 59) (v := nI 0) dX8_ring_59 (by decide) ?_
              refine J_callV0 (pc := 60) (M := mX8_ring) (as := [.int (nI 1), .int (nI 0)]) dX8_ring_60 fw_X8_isThrown fl_X8_35 fm_X8_isThrown fe_X8_isThrown h19 (by decide) rfl rfl rfl (c_X8_isThrown hs (d := d - 1) (by omega) (w := w) (n := n) (mv := mv) (rw := rw) (nx := nx) (b := b) (bt := bt) (kn := kn) (en := en) (dn := dn) (rf := rf) (kk := kk) (th := th) ⟨h19, h20, h21, h22, hbb, hbl, hb3⟩ hn1 hn2 gm gr gx 1 0 (by first | assumption | omega) (by first | assumption | omega) (kc := 0) (ks := 0)) (by omega) (st := []) (Nat.le_of_ble_eq_true rfl) rfl (kr_I fun v32 w32 hv32 hw32 => ?_) kx_I
              obtain ⟨hR32, hFc32⟩ := hw32
              obtain ⟨h19_32, h20_32, h21_32, h22_32, hbb_32, hbl_32, hb3_32⟩ := hR32
              have hF32 := hF.tr hFc32
              subst hv32
              show J X mX8_ring d kc ks 63 [some (.ref 19), some (.int (nI q1)), some (.int (nI q12)), some (.int e), some (.int f)] [.int (nI 1)] w32 _
              refine J_if_eqN (pc := 63) (tgt := 68) dX8_ring_63 (by decide) (by decide) (fun h => absurd h (by decide)) (fun _ => ?_)
              refine J_iconst (pc := 66) (v := nI 0) dX8_ring_66 (by decide) ?_
              exact J_iret (pc := 67) dX8_ring_67 rfl ⟨trivial, ⟨mv, rw, nx, kn, dn, nI (tW 1 0), ⟨h19_32, h20_32, h21_32, h22_32, hbb_32, hbl_32, hb3_32⟩, hF32, gm, gr, gx, (by first | assumption | exact PM_st hn2 (by assumption) (by assumption) (by assumption)), (by first | assumption | exact Or.inl rfl)⟩⟩
            · refine J_iconst (pc := 55) (v := nI 1) dX8_ring_55 (by decide) ?_
              refine J_goto (pc := 56) (tgt := 60) dX8_ring_56 (by decide) ?_
              refine J_callV0 (pc := 60) (M := mX8_ring) (as := [.int (nI 1), .int (nI 1)]) dX8_ring_60 fw_X8_isThrown fl_X8_35 fm_X8_isThrown fe_X8_isThrown h19 (by decide) rfl rfl rfl (c_X8_isThrown hs (d := d - 1) (by omega) (w := w) (n := n) (mv := mv) (rw := rw) (nx := nx) (b := b) (bt := bt) (kn := kn) (en := en) (dn := dn) (rf := rf) (kk := kk) (th := th) ⟨h19, h20, h21, h22, hbb, hbl, hb3⟩ hn1 hn2 gm gr gx 1 1 (by first | assumption | omega) (by first | assumption | omega) (kc := 0) (ks := 0)) (by omega) (st := []) (Nat.le_of_ble_eq_true rfl) rfl (kr_I fun v33 w33 hv33 hw33 => ?_) kx_I
              obtain ⟨hR33, hFc33⟩ := hw33
              obtain ⟨h19_33, h20_33, h21_33, h22_33, hbb_33, hbl_33, hb3_33⟩ := hR33
              have hF33 := hF.tr hFc33
              subst hv33
              show J X mX8_ring d kc ks 63 [some (.ref 19), some (.int (nI q1)), some (.int (nI q12)), some (.int e), some (.int f)] [.int (nI 1)] w33 _
              refine J_if_eqN (pc := 63) (tgt := 68) dX8_ring_63 (by decide) (by decide) (fun h => absurd h (by decide)) (fun _ => ?_)
              refine J_iconst (pc := 66) (v := nI 0) dX8_ring_66 (by decide) ?_
              exact J_iret (pc := 67) dX8_ring_67 rfl ⟨trivial, ⟨mv, rw, nx, kn, dn, nI (tW 1 1), ⟨h19_33, h20_33, h21_33, h22_33, hbb_33, hbl_33, hb3_33⟩, hF33, gm, gr, gx, (by first | assumption | exact PM_st hn2 (by assumption) (by assumption) (by assumption)), (by first | assumption | exact Or.inl rfl)⟩⟩
      · refine J_if_eqN (pc := 21) (tgt := 33) dX8_ring_21 (by decide) (by decide) (fun h => absurd h (by decide)) (fun _ => ?_)
        refine J_aload_n (pc := 24) dX8_ring_24 rfl rfl rfl ?_
        refine J_iload (pc := 25) dX8_ring_25 rfl ?_
        refine J_callV0 (pc := 27) (M := mX8_ring) (as := [.int f]) dX8_ring_27 fw_X8_isPoint fl_X8_118 fm_X8_isPoint fe_X8_isPoint h19 (by decide) rfl rfl rfl (c_X8_isPoint hs (d := d - 1) (by omega) (w := w) (n := n) (mv := mv) (rw := rw) (nx := nx) (b := b) (bt := bt) (kn := kn) (en := en) (dn := dn) (rf := rf) (kk := kk) (th := th) ⟨h19, h20, h21, h22, hbb, hbl, hb3⟩ hn1 hn2 gm gr gx f (kc := 0) (ks := 0)) (by omega) (st := [.ref 19]) (Nat.le_of_ble_eq_true rfl) rfl (kr_P fun v34 hv34 => ?_) kx_I
        rcases hv34 with ⟨rfl, hk34_0⟩ | ⟨q34, rfl, hk34_0, rfl⟩
        · refine J_if_neN (pc := 30) (tgt := 37) dX8_ring_30 (by decide) (by decide) (fun h => absurd h (by decide)) (fun _ => ?_)
          refine J_iconst (pc := 33) (v := nI 1) dX8_ring_33 (by decide) ?_
          refine J_goto (pc := 34) (tgt := 38) dX8_ring_34 (by decide) ?_
          refine J_iload_n (pc := 38) dX8_ring_38 rfl rfl ?_
          refine J_iload_n (pc := 39) dX8_ring_39 rfl rfl ?_
          refine J_icmp_eqN (pc := 40) (tgt := 55) dX8_ring_40 (by decide) (by omega) (by omega) (fun ht35 => ?_) (fun hf36 => ?_)
          · refine J_iconst (pc := 55) (v := nI 1) dX8_ring_55 (by decide) ?_
            refine J_goto (pc := 56) (tgt := 60) dX8_ring_56 (by decide) ?_
            refine J_callV0 (pc := 60) (M := mX8_ring) (as := [.int (nI 1), .int (nI 1)]) dX8_ring_60 fw_X8_isThrown fl_X8_35 fm_X8_isThrown fe_X8_isThrown h19 (by decide) rfl rfl rfl (c_X8_isThrown hs (d := d - 1) (by omega) (w := w) (n := n) (mv := mv) (rw := rw) (nx := nx) (b := b) (bt := bt) (kn := kn) (en := en) (dn := dn) (rf := rf) (kk := kk) (th := th) ⟨h19, h20, h21, h22, hbb, hbl, hb3⟩ hn1 hn2 gm gr gx 1 1 (by first | assumption | omega) (by first | assumption | omega) (kc := 0) (ks := 0)) (by omega) (st := []) (Nat.le_of_ble_eq_true rfl) rfl (kr_I fun v37 w37 hv37 hw37 => ?_) kx_I
            obtain ⟨hR37, hFc37⟩ := hw37
            obtain ⟨h19_37, h20_37, h21_37, h22_37, hbb_37, hbl_37, hb3_37⟩ := hR37
            have hF37 := hF.tr hFc37
            subst hv37
            show J X mX8_ring d kc ks 63 [some (.ref 19), some (.int (nI q1)), some (.int (nI q12)), some (.int (nI q23)), some (.int f)] [.int (nI 1)] w37 _
            refine J_if_eqN (pc := 63) (tgt := 68) dX8_ring_63 (by decide) (by decide) (fun h => absurd h (by decide)) (fun _ => ?_)
            refine J_iconst (pc := 66) (v := nI 0) dX8_ring_66 (by decide) ?_
            exact J_iret (pc := 67) dX8_ring_67 rfl ⟨trivial, ⟨mv, rw, nx, kn, dn, nI (tW 1 1), ⟨h19_37, h20_37, h21_37, h22_37, hbb_37, hbl_37, hb3_37⟩, hF37, gm, gr, gx, (by first | assumption | exact PM_st hn2 (by assumption) (by assumption) (by assumption)), (by first | assumption | exact Or.inl rfl)⟩⟩
          · refine J_iload_n (pc := 43) dX8_ring_43 rfl rfl ?_
            refine J_iload (pc := 44) dX8_ring_44 rfl ?_
            refine J_icmp_eq (pc := 46) (tgt := 55) dX8_ring_46 (by decide) (fun ht38 => ?_) (fun hf39 => ?_)
            · refine J_iconst (pc := 55) (v := nI 1) dX8_ring_55 (by decide) ?_
              refine J_goto (pc := 56) (tgt := 60) dX8_ring_56 (by decide) ?_
              refine J_callV0 (pc := 60) (M := mX8_ring) (as := [.int (nI 1), .int (nI 1)]) dX8_ring_60 fw_X8_isThrown fl_X8_35 fm_X8_isThrown fe_X8_isThrown h19 (by decide) rfl rfl rfl (c_X8_isThrown hs (d := d - 1) (by omega) (w := w) (n := n) (mv := mv) (rw := rw) (nx := nx) (b := b) (bt := bt) (kn := kn) (en := en) (dn := dn) (rf := rf) (kk := kk) (th := th) ⟨h19, h20, h21, h22, hbb, hbl, hb3⟩ hn1 hn2 gm gr gx 1 1 (by first | assumption | omega) (by first | assumption | omega) (kc := 0) (ks := 0)) (by omega) (st := []) (Nat.le_of_ble_eq_true rfl) rfl (kr_I fun v40 w40 hv40 hw40 => ?_) kx_I
              obtain ⟨hR40, hFc40⟩ := hw40
              obtain ⟨h19_40, h20_40, h21_40, h22_40, hbb_40, hbl_40, hb3_40⟩ := hR40
              have hF40 := hF.tr hFc40
              subst hv40
              show J X mX8_ring d kc ks 63 [some (.ref 19), some (.int (nI q1)), some (.int (nI q12)), some (.int (nI q23)), some (.int f)] [.int (nI 1)] w40 _
              refine J_if_eqN (pc := 63) (tgt := 68) dX8_ring_63 (by decide) (by decide) (fun h => absurd h (by decide)) (fun _ => ?_)
              refine J_iconst (pc := 66) (v := nI 0) dX8_ring_66 (by decide) ?_
              exact J_iret (pc := 67) dX8_ring_67 rfl ⟨trivial, ⟨mv, rw, nx, kn, dn, nI (tW 1 1), ⟨h19_40, h20_40, h21_40, h22_40, hbb_40, hbl_40, hb3_40⟩, hF40, gm, gr, gx, (by first | assumption | exact PM_st hn2 (by assumption) (by assumption) (by assumption)), (by first | assumption | exact Or.inl rfl)⟩⟩
            · refine J_iload_n (pc := 49) dX8_ring_49 rfl rfl ?_
              refine J_iload (pc := 50) dX8_ring_50 rfl ?_
              refine J_icmp_ne (pc := 52) (tgt := 59) dX8_ring_52 (by decide) (fun ht41 => ?_) (fun hf42 => ?_)
              · refine J_iconst (pc := 59) (v := nI 0) dX8_ring_59 (by decide) ?_
                refine J_callV0 (pc := 60) (M := mX8_ring) (as := [.int (nI 1), .int (nI 0)]) dX8_ring_60 fw_X8_isThrown fl_X8_35 fm_X8_isThrown fe_X8_isThrown h19 (by decide) rfl rfl rfl (c_X8_isThrown hs (d := d - 1) (by omega) (w := w) (n := n) (mv := mv) (rw := rw) (nx := nx) (b := b) (bt := bt) (kn := kn) (en := en) (dn := dn) (rf := rf) (kk := kk) (th := th) ⟨h19, h20, h21, h22, hbb, hbl, hb3⟩ hn1 hn2 gm gr gx 1 0 (by first | assumption | omega) (by first | assumption | omega) (kc := 0) (ks := 0)) (by omega) (st := []) (Nat.le_of_ble_eq_true rfl) rfl (kr_I fun v43 w43 hv43 hw43 => ?_) kx_I
                obtain ⟨hR43, hFc43⟩ := hw43
                obtain ⟨h19_43, h20_43, h21_43, h22_43, hbb_43, hbl_43, hb3_43⟩ := hR43
                have hF43 := hF.tr hFc43
                subst hv43
                show J X mX8_ring d kc ks 63 [some (.ref 19), some (.int (nI q1)), some (.int (nI q12)), some (.int (nI q23)), some (.int f)] [.int (nI 1)] w43 _
                refine J_if_eqN (pc := 63) (tgt := 68) dX8_ring_63 (by decide) (by decide) (fun h => absurd h (by decide)) (fun _ => ?_)
                refine J_iconst (pc := 66) (v := nI 0) dX8_ring_66 (by decide) ?_
                exact J_iret (pc := 67) dX8_ring_67 rfl ⟨trivial, ⟨mv, rw, nx, kn, dn, nI (tW 1 0), ⟨h19_43, h20_43, h21_43, h22_43, hbb_43, hbl_43, hb3_43⟩, hF43, gm, gr, gx, (by first | assumption | exact PM_st hn2 (by assumption) (by assumption) (by assumption)), (by first | assumption | exact Or.inl rfl)⟩⟩
              · refine J_iconst (pc := 55) (v := nI 1) dX8_ring_55 (by decide) ?_
                refine J_goto (pc := 56) (tgt := 60) dX8_ring_56 (by decide) ?_
                refine J_callV0 (pc := 60) (M := mX8_ring) (as := [.int (nI 1), .int (nI 1)]) dX8_ring_60 fw_X8_isThrown fl_X8_35 fm_X8_isThrown fe_X8_isThrown h19 (by decide) rfl rfl rfl (c_X8_isThrown hs (d := d - 1) (by omega) (w := w) (n := n) (mv := mv) (rw := rw) (nx := nx) (b := b) (bt := bt) (kn := kn) (en := en) (dn := dn) (rf := rf) (kk := kk) (th := th) ⟨h19, h20, h21, h22, hbb, hbl, hb3⟩ hn1 hn2 gm gr gx 1 1 (by first | assumption | omega) (by first | assumption | omega) (kc := 0) (ks := 0)) (by omega) (st := []) (Nat.le_of_ble_eq_true rfl) rfl (kr_I fun v44 w44 hv44 hw44 => ?_) kx_I
                obtain ⟨hR44, hFc44⟩ := hw44
                obtain ⟨h19_44, h20_44, h21_44, h22_44, hbb_44, hbl_44, hb3_44⟩ := hR44
                have hF44 := hF.tr hFc44
                subst hv44
                show J X mX8_ring d kc ks 63 [some (.ref 19), some (.int (nI q1)), some (.int (nI q12)), some (.int (nI q23)), some (.int f)] [.int (nI 1)] w44 _
                refine J_if_eqN (pc := 63) (tgt := 68) dX8_ring_63 (by decide) (by decide) (fun h => absurd h (by decide)) (fun _ => ?_)
                refine J_iconst (pc := 66) (v := nI 0) dX8_ring_66 (by decide) ?_
                exact J_iret (pc := 67) dX8_ring_67 rfl ⟨trivial, ⟨mv, rw, nx, kn, dn, nI (tW 1 1), ⟨h19_44, h20_44, h21_44, h22_44, hbb_44, hbl_44, hb3_44⟩, hF44, gm, gr, gx, (by first | assumption | exact PM_st hn2 (by assumption) (by assumption) (by assumption)), (by first | assumption | exact Or.inl rfl)⟩⟩
        · refine J_if_neN (pc := 30) (tgt := 37) dX8_ring_30 (by decide) (by decide) (fun _ => ?_) (fun h => absurd h (by decide))
          refine J_iconst (pc := 37) (v := nI 0) dX8_ring_37 (by decide) ?_
          refine J_iload_n (pc := 38) dX8_ring_38 rfl rfl ?_
          refine J_iload_n (pc := 39) dX8_ring_39 rfl rfl ?_
          refine J_icmp_eqN (pc := 40) (tgt := 55) dX8_ring_40 (by decide) (by omega) (by omega) (fun ht45 => ?_) (fun hf46 => ?_)
          · refine J_iconst (pc := 55) (v := nI 1) dX8_ring_55 (by decide) ?_
            refine J_goto (pc := 56) (tgt := 60) dX8_ring_56 (by decide) ?_
            refine J_callV0 (pc := 60) (M := mX8_ring) (as := [.int (nI 0), .int (nI 1)]) dX8_ring_60 fw_X8_isThrown fl_X8_35 fm_X8_isThrown fe_X8_isThrown h19 (by decide) rfl rfl rfl (c_X8_isThrown hs (d := d - 1) (by omega) (w := w) (n := n) (mv := mv) (rw := rw) (nx := nx) (b := b) (bt := bt) (kn := kn) (en := en) (dn := dn) (rf := rf) (kk := kk) (th := th) ⟨h19, h20, h21, h22, hbb, hbl, hb3⟩ hn1 hn2 gm gr gx 0 1 (by first | assumption | omega) (by first | assumption | omega) (kc := 0) (ks := 0)) (by omega) (st := []) (Nat.le_of_ble_eq_true rfl) rfl (kr_I fun v47 w47 hv47 hw47 => ?_) kx_I
            obtain ⟨hR47, hFc47⟩ := hw47
            obtain ⟨h19_47, h20_47, h21_47, h22_47, hbb_47, hbl_47, hb3_47⟩ := hR47
            have hF47 := hF.tr hFc47
            subst hv47
            show J X mX8_ring d kc ks 63 [some (.ref 19), some (.int (nI q1)), some (.int (nI q12)), some (.int (nI q23)), some (.int (nI q34))] [.int (nI 1)] w47 _
            refine J_if_eqN (pc := 63) (tgt := 68) dX8_ring_63 (by decide) (by decide) (fun h => absurd h (by decide)) (fun _ => ?_)
            refine J_iconst (pc := 66) (v := nI 0) dX8_ring_66 (by decide) ?_
            exact J_iret (pc := 67) dX8_ring_67 rfl ⟨trivial, ⟨mv, rw, nx, kn, dn, nI (tW 0 1), ⟨h19_47, h20_47, h21_47, h22_47, hbb_47, hbl_47, hb3_47⟩, hF47, gm, gr, gx, (by first | assumption | exact PM_st hn2 (by assumption) (by assumption) (by assumption)), (by first | assumption | exact Or.inl rfl)⟩⟩
          · refine J_iload_n (pc := 43) dX8_ring_43 rfl rfl ?_
            refine J_iload (pc := 44) dX8_ring_44 rfl ?_
            refine J_icmp_eqN (pc := 46) (tgt := 55) dX8_ring_46 (by decide) (by omega) (by omega) (fun ht48 => ?_) (fun hf49 => ?_)
            · refine J_iconst (pc := 55) (v := nI 1) dX8_ring_55 (by decide) ?_
              refine J_goto (pc := 56) (tgt := 60) dX8_ring_56 (by decide) ?_
              refine J_callV0 (pc := 60) (M := mX8_ring) (as := [.int (nI 0), .int (nI 1)]) dX8_ring_60 fw_X8_isThrown fl_X8_35 fm_X8_isThrown fe_X8_isThrown h19 (by decide) rfl rfl rfl (c_X8_isThrown hs (d := d - 1) (by omega) (w := w) (n := n) (mv := mv) (rw := rw) (nx := nx) (b := b) (bt := bt) (kn := kn) (en := en) (dn := dn) (rf := rf) (kk := kk) (th := th) ⟨h19, h20, h21, h22, hbb, hbl, hb3⟩ hn1 hn2 gm gr gx 0 1 (by first | assumption | omega) (by first | assumption | omega) (kc := 0) (ks := 0)) (by omega) (st := []) (Nat.le_of_ble_eq_true rfl) rfl (kr_I fun v50 w50 hv50 hw50 => ?_) kx_I
              obtain ⟨hR50, hFc50⟩ := hw50
              obtain ⟨h19_50, h20_50, h21_50, h22_50, hbb_50, hbl_50, hb3_50⟩ := hR50
              have hF50 := hF.tr hFc50
              subst hv50
              show J X mX8_ring d kc ks 63 [some (.ref 19), some (.int (nI q1)), some (.int (nI q12)), some (.int (nI q23)), some (.int (nI q34))] [.int (nI 1)] w50 _
              refine J_if_eqN (pc := 63) (tgt := 68) dX8_ring_63 (by decide) (by decide) (fun h => absurd h (by decide)) (fun _ => ?_)
              refine J_iconst (pc := 66) (v := nI 0) dX8_ring_66 (by decide) ?_
              exact J_iret (pc := 67) dX8_ring_67 rfl ⟨trivial, ⟨mv, rw, nx, kn, dn, nI (tW 0 1), ⟨h19_50, h20_50, h21_50, h22_50, hbb_50, hbl_50, hb3_50⟩, hF50, gm, gr, gx, (by first | assumption | exact PM_st hn2 (by assumption) (by assumption) (by assumption)), (by first | assumption | exact Or.inl rfl)⟩⟩
            · refine J_iload_n (pc := 49) dX8_ring_49 rfl rfl ?_
              refine J_iload (pc := 50) dX8_ring_50 rfl ?_
              refine J_icmp_neN (pc := 52) (tgt := 59) dX8_ring_52 (by decide) (by omega) (by omega) (fun ht51 => ?_) (fun hf52 => ?_)
              · refine J_iconst (pc := 59) (v := nI 0) dX8_ring_59 (by decide) ?_
                refine J_callV0 (pc := 60) (M := mX8_ring) (as := [.int (nI 0), .int (nI 0)]) dX8_ring_60 fw_X8_isThrown fl_X8_35 fm_X8_isThrown fe_X8_isThrown h19 (by decide) rfl rfl rfl (c_X8_isThrown hs (d := d - 1) (by omega) (w := w) (n := n) (mv := mv) (rw := rw) (nx := nx) (b := b) (bt := bt) (kn := kn) (en := en) (dn := dn) (rf := rf) (kk := kk) (th := th) ⟨h19, h20, h21, h22, hbb, hbl, hb3⟩ hn1 hn2 gm gr gx 0 0 (by first | assumption | omega) (by first | assumption | omega) (kc := 0) (ks := 0)) (by omega) (st := []) (Nat.le_of_ble_eq_true rfl) rfl (kr_I fun v53 w53 hv53 hw53 => ?_) kx_I
                obtain ⟨hR53, hFc53⟩ := hw53
                obtain ⟨h19_53, h20_53, h21_53, h22_53, hbb_53, hbl_53, hb3_53⟩ := hR53
                have hF53 := hF.tr hFc53
                subst hv53
                show J X mX8_ring d kc ks 63 [some (.ref 19), some (.int (nI q1)), some (.int (nI q12)), some (.int (nI q23)), some (.int (nI q34))] [.int (nI 0)] w53 _
                refine J_if_eqN (pc := 63) (tgt := 68) dX8_ring_63 (by decide) (by decide) (fun _ => ?_) (fun h => absurd h (by decide))
                refine J_aload_n (pc := 68) dX8_ring_68 rfl rfl rfl ?_
                refine J_callV0 (pc := 69) (M := mX8_ring) (as := []) dX8_ring_69 fw_X8_stillRow fl_X8_121 fm_X8_stillRow fe_X8_stillRow h19_53 (by decide) rfl rfl rfl (c_X8_stillRow hs (d := d - 1) (by omega) (w := w53) (n := n) (mv := mv) (rw := rw) (nx := nx) (b := b) (bt := bt) (kn := kn) (en := en) (dn := dn) (rf := rf) (kk := kk) (th := nI (tW 0 0)) ⟨h19_53, h20_53, h21_53, h22_53, hbb_53, hbl_53, hb3_53⟩ hn1 hn2 gm gr gx  (kc := 0) (ks := 0)) (by omega) (st := []) (Nat.le_of_ble_eq_true rfl) rfl (kr_V fun w54 hw54 => ?_) kx_V
                obtain ⟨rw54, hR54, hFc54, hgrw54, hp54_0⟩ := hw54
                obtain ⟨h19_54, h20_54, h21_54, h22_54, hbb_54, hbl_54, hb3_54⟩ := hR54
                have hF54 := hF53.tr hFc54
                have hst := hp54_0
                refine J_aload_n (pc := 72) dX8_ring_72 rfl rfl rfl ?_
                refine J_get (pc := 73) (k := 2) dX8_ring_73 kC9 (by decide) ff_X8_17 h19_54 rfl ?_
                refine J_iload_n (pc := 76) dX8_ring_76 rfl rfl ?_
                refine J_iload_n (pc := 77) dX8_ring_77 rfl rfl ?_
                refine J_iastF (pc := 78) dX8_ring_78 h21_54 (by omega) (by decide) (fun w55 hln55 hc55 hne55 => ?_)
                have hg55 : ∀ i, (up rw54 q12 q23) i < 7 := up_b hgrw54 (by omega)
                have h19_55 := (hne55 19 (by omega)).trans h19_54
                have h20_55 := (hne55 20 (by omega)).trans h20_54
                have h22_55 := (hne55 22 (by omega)).trans h22_54
                have hb_55 := (hne55 _ (by omega)).trans hbb_54
                have hF55 := hF54.st hln55 hne55 (Or.inl (by decide))
                refine J_aload_n (pc := 79) dX8_ring_79 rfl rfl rfl ?_
                refine J_get (pc := 80) (k := 2) dX8_ring_80 kC9 (by decide) ff_X8_17 h19_55 rfl ?_
                refine J_iload_n (pc := 83) dX8_ring_83 rfl rfl ?_
                refine J_iload (pc := 84) dX8_ring_84 rfl ?_
                refine J_iastF (pc := 86) dX8_ring_86 hc55 (by omega) (by decide) (fun w56 hln56 hc56 hne56 => ?_)
                have hg56 : ∀ i, (up (up rw54 q12 q23) q23 q34) i < 7 := up_b hg55 (by omega)
                have h19_56 := (hne56 19 (by omega)).trans h19_55
                have h20_56 := (hne56 20 (by omega)).trans h20_55
                have h22_56 := (hne56 22 (by omega)).trans h22_55
                have hb_56 := (hne56 _ (by omega)).trans hb_55
                have hF56 := hF55.st hln56 hne56 (Or.inl (by decide))
                refine J_aload_n (pc := 87) dX8_ring_87 rfl rfl rfl ?_
                refine J_get (pc := 88) (k := 2) dX8_ring_88 kC9 (by decide) ff_X8_17 h19_56 rfl ?_
                refine J_iload (pc := 91) dX8_ring_91 rfl ?_
                refine J_iload_n (pc := 93) dX8_ring_93 rfl rfl ?_
                refine J_iastF (pc := 94) dX8_ring_94 hc56 (by omega) (by decide) (fun w57 hln57 hc57 hne57 => ?_)
                have hg57 : ∀ i, (up (up (up rw54 q12 q23) q23 q34) q34 q12) i < 7 := up_b hg56 (by omega)
                have h19_57 := (hne57 19 (by omega)).trans h19_56
                have h20_57 := (hne57 20 (by omega)).trans h20_56
                have h22_57 := (hne57 22 (by omega)).trans h22_56
                have hb_57 := (hne57 _ (by omega)).trans hb_56
                have hF57 := hF56.st hln57 hne57 (Or.inl (by decide))
                have hPr := Pn_ring (u := q12) (v := q23) (t := q34) hst (by omega) (by omega) (by omega) (by assumption) (by assumption) (by assumption)
                refine J_aload_n (pc := 95) dX8_ring_95 rfl rfl rfl ?_
                refine J_iload_n (pc := 96) dX8_ring_96 rfl rfl ?_
                refine J_aload_n (pc := 97) dX8_ring_97 rfl rfl rfl ?_
                refine J_get (pc := 98) (k := 2) dX8_ring_98 kC9 (by decide) ff_X8_17 h19_57 rfl ?_
                refine J_callV0 (pc := 101) (M := mX8_ring) (as := [.int (nI q1), .ref 21]) dX8_ring_101 fw_X8_behind fl_X8_124 fm_X8_behind fe_X8_behind h19_57 (by decide) rfl rfl rfl (c_X8_behind hs (d := d - 1) (by omega) (w := w57) (n := n) (mv := mv) (rw := up (up (up rw54 q12 q23) q23 q34) q34 q12) (nx := nx) (b := b) (bt := bt) (kn := kn) (en := en) (dn := dn) (rf := rf) (kk := kk) (th := nI (tW 0 0)) ⟨h19_57, h20_57, hc57, h22_57, hb_57, hbl_54, hb3_54⟩ hn1 hn2 gm hg57 gx q1 (by first | assumption | omega) (by first | assumption | omega) (by first | assumption | omega) (kc := 0) (ks := 0)) (by omega) (st := []) (Nat.le_of_ble_eq_true rfl) rfl (kr_I fun v58 w58 hv58 hw58 => ?_) kx_I
                obtain ⟨mv58, nx58, hR58, hFc58, hgmv58, hgnx58, hp58_0⟩ := hw58
                obtain ⟨h19_58, h20_58, h21_58, h22_58, hbb_58, hbl_58, hb3_58⟩ := hR58
                have hF58 := hF57.tr hFc58
                exact J_iret (pc := 104) dX8_ring_104 rfl ⟨trivial, ⟨mv58, up (up (up rw54 q12 q23) q23 q34) q34 q12, nx58, (-1), (dn + nI 1), nI (tW 0 0), ⟨h19_58, h20_58, h21_58, h22_58, hbb_58, hbl_58, hb3_58⟩, hF58, hgmv58, hg57, hgnx58, (by first | assumption | exact PM_st hn2 (by assumption) (by assumption) (by assumption)), (by first | assumption | exact Or.inl rfl)⟩⟩
              · refine J_iconst (pc := 55) (v := nI 1) dX8_ring_55 (by decide) ?_
                refine J_goto (pc := 56) (tgt := 60) dX8_ring_56 (by decide) ?_
                refine J_callV0 (pc := 60) (M := mX8_ring) (as := [.int (nI 0), .int (nI 1)]) dX8_ring_60 fw_X8_isThrown fl_X8_35 fm_X8_isThrown fe_X8_isThrown h19 (by decide) rfl rfl rfl (c_X8_isThrown hs (d := d - 1) (by omega) (w := w) (n := n) (mv := mv) (rw := rw) (nx := nx) (b := b) (bt := bt) (kn := kn) (en := en) (dn := dn) (rf := rf) (kk := kk) (th := th) ⟨h19, h20, h21, h22, hbb, hbl, hb3⟩ hn1 hn2 gm gr gx 0 1 (by first | assumption | omega) (by first | assumption | omega) (kc := 0) (ks := 0)) (by omega) (st := []) (Nat.le_of_ble_eq_true rfl) rfl (kr_I fun v59 w59 hv59 hw59 => ?_) kx_I
                obtain ⟨hR59, hFc59⟩ := hw59
                obtain ⟨h19_59, h20_59, h21_59, h22_59, hbb_59, hbl_59, hb3_59⟩ := hR59
                have hF59 := hF.tr hFc59
                subst hv59
                show J X mX8_ring d kc ks 63 [some (.ref 19), some (.int (nI q1)), some (.int (nI q12)), some (.int (nI q23)), some (.int (nI q34))] [.int (nI 1)] w59 _
                refine J_if_eqN (pc := 63) (tgt := 68) dX8_ring_63 (by decide) (by decide) (fun h => absurd h (by decide)) (fun _ => ?_)
                refine J_iconst (pc := 66) (v := nI 0) dX8_ring_66 (by decide) ?_
                exact J_iret (pc := 67) dX8_ring_67 rfl ⟨trivial, ⟨mv, rw, nx, kn, dn, nI (tW 0 1), ⟨h19_59, h20_59, h21_59, h22_59, hbb_59, hbl_59, hb3_59⟩, hF59, gm, gr, gx, (by first | assumption | exact PM_st hn2 (by assumption) (by assumption) (by assumption)), (by first | assumption | exact Or.inl rfl)⟩⟩
