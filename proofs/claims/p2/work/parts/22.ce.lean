/-! contracts of the reference: rspec3 -/
set_option maxRecDepth 100000 in
set_option maxHeartbeats 4000000 in
theorem c_X8_swap {X : jX} (hs : X.1.stackTraces = false) {d : Nat} (hd : 2 ≤ d) {n : Nat} {mv rw nx : Nat → Nat} {b : Nat} {bt : List Int32} {kn en dn rf kk th : Int32} {w : List jC} (hR : RM n mv rw nx b bt kn en dn rf kk th w) (hn1 : 2 ≤ n) (hn2 : n ≤ 7) (gm : ∀ i, mv i < 7) (gr : ∀ i, rw i < 7) (gx : ∀ i, nx i < 7) (a : Int32) (c : Int32) (hy0 : PM n mv) (hy1 : KB n kn bt) {kc ks : Nat} : jMet X mX8_swap d kc ks [.ref 19, .int a, .int c] w (pI (fun _ => True) (fun w' => ∃ (mv' : Nat → Nat), ∃ (kn' : Int32), ∃ (dn' : Int32), ∃ (th' : Int32), RM n mv' rw nx b bt kn' en dn' rf kk th' w' ∧ FR b b w w' ∧ (∀ i, mv' i < 7) ∧ PM n mv' ∧ KB n kn' bt)) := by
  refine jMet_of hs (by decide +kernel) (Nat.le_of_ble_eq_true rfl) (L := [some (.ref 19), some (.int a), some (.int c), none, none, none]) rfl ?_
  have hfc := fc_7 hn2
  have hfp := fc_pos n
  obtain ⟨h19, h20, h21, h22, hbb, hbl, hb3⟩ := hR
  have hF : FR b b w w := FR.rf
  refine J_aload_n (pc := 0) dX8_swap_0 rfl rfl rfl ?_
  refine J_iload_n (pc := 1) dX8_swap_1 rfl rfl ?_
  refine J_callS0 (pc := 2) (M := mX8_swap) (as := [.int a]) dX8_swap_2 fw_X8_isCell fl_X8_108 fs_X8_isCell rfl (c_X8_isCell hs (d := d - 1) (by omega) (w := w) a (kc := 0) (ks := 0)) (by omega) (st := [.ref 19]) (Nat.le_of_ble_eq_true rfl) rfl (kr_P fun v1 hv1 => ?_) kx_I
  rcases hv1 with ⟨rfl, hk1_0⟩ | ⟨q1, rfl, hk1_0, rfl⟩
  · refine J_if_eqN (pc := 5) (tgt := 15) dX8_swap_5 (by decide) (by decide) (fun _ => ?_) (fun h => absurd h (by decide))
    refine J_iconst (pc := 15) (v := nI 1) dX8_swap_15 (by decide) ?_
    refine J_goto (pc := 16) (tgt := 20) dX8_swap_16 (by decide) ?_
    refine J_callV0 (pc := 20) (M := mX8_swap) (as := [.int (nI 1)]) dX8_swap_20 fw_X8_isThrown_ fl_X8_105 fm_X8_isThrown_ fe_X8_isThrown_ h19 (by decide) rfl rfl rfl (c_X8_isThrown_ hs (d := d - 1) (by omega) (w := w) (n := n) (mv := mv) (rw := rw) (nx := nx) (b := b) (bt := bt) (kn := kn) (en := en) (dn := dn) (rf := rf) (kk := kk) (th := th) ⟨h19, h20, h21, h22, hbb, hbl, hb3⟩ hn1 hn2 gm gr gx 1 (by first | assumption | omega) (kc := 0) (ks := 0)) (by omega) (st := []) (Nat.le_of_ble_eq_true rfl) rfl (kr_I fun v2 w2 hv2 hw2 => ?_) kx_I
    obtain ⟨hR2, hFc2⟩ := hw2
    obtain ⟨h19_2, h20_2, h21_2, h22_2, hbb_2, hbl_2, hb3_2⟩ := hR2
    have hF2 := hF.tr hFc2
    subst hv2
    show J X mX8_swap d kc ks 23 [some (.ref 19), some (.int a), some (.int c), none, none, none] [.int (nI 1)] w2 _
    refine J_if_eqN (pc := 23) (tgt := 28) dX8_swap_23 (by decide) (by decide) (fun h => absurd h (by decide)) (fun _ => ?_)
    refine J_iconst (pc := 26) (v := nI 0) dX8_swap_26 (by decide) ?_
    exact J_iret (pc := 27) dX8_swap_27 rfl ⟨trivial, ⟨mv, kn, dn, nI (tW 1 0), ⟨h19_2, h20_2, h21_2, h22_2, hbb_2, hbl_2, hb3_2⟩, hF2, gm, (by first | assumption | exact PM_sw hn2 (by assumption) (by assumption) (by assumption) (by assumption) (by omega)), (by first | assumption | exact Or.inl rfl)⟩⟩
  · refine J_if_eqN (pc := 5) (tgt := 15) dX8_swap_5 (by decide) (by decide) (fun h => absurd h (by decide)) (fun _ => ?_)
    refine J_iload_n (pc := 8) dX8_swap_8 rfl rfl ?_
    refine J_callS0 (pc := 9) (M := mX8_swap) (as := [.int c]) dX8_swap_9 fw_X8_isCell fl_X8_108 fs_X8_isCell rfl (c_X8_isCell hs (d := d - 1) (by omega) (w := w) c (kc := 0) (ks := 0)) (by omega) (st := [.ref 19]) (Nat.le_of_ble_eq_true rfl) rfl (kr_P fun v3 hv3 => ?_) kx_I
    rcases hv3 with ⟨rfl, hk3_0⟩ | ⟨q3, rfl, hk3_0, rfl⟩
    · refine J_if_neN (pc := 12) (tgt := 19) dX8_swap_12 (by decide) (by decide) (fun h => absurd h (by decide)) (fun _ => ?_)
      refine J_iconst (pc := 15) (v := nI 1) dX8_swap_15 (by decide) ?_
      refine J_goto (pc := 16) (tgt := 20) dX8_swap_16 (by decide) ?_
      refine J_callV0 (pc := 20) (M := mX8_swap) (as := [.int (nI 1)]) dX8_swap_20 fw_X8_isThrown_ fl_X8_105 fm_X8_isThrown_ fe_X8_isThrown_ h19 (by decide) rfl rfl rfl (c_X8_isThrown_ hs (d := d - 1) (by omega) (w := w) (n := n) (mv := mv) (rw := rw) (nx := nx) (b := b) (bt := bt) (kn := kn) (en := en) (dn := dn) (rf := rf) (kk := kk) (th := th) ⟨h19, h20, h21, h22, hbb, hbl, hb3⟩ hn1 hn2 gm gr gx 1 (by first | assumption | omega) (kc := 0) (ks := 0)) (by omega) (st := []) (Nat.le_of_ble_eq_true rfl) rfl (kr_I fun v4 w4 hv4 hw4 => ?_) kx_I
      obtain ⟨hR4, hFc4⟩ := hw4
      obtain ⟨h19_4, h20_4, h21_4, h22_4, hbb_4, hbl_4, hb3_4⟩ := hR4
      have hF4 := hF.tr hFc4
      subst hv4
      show J X mX8_swap d kc ks 23 [some (.ref 19), some (.int (nI q1)), some (.int c), none, none, none] [.int (nI 1)] w4 _
      refine J_if_eqN (pc := 23) (tgt := 28) dX8_swap_23 (by decide) (by decide) (fun h => absurd h (by decide)) (fun _ => ?_)
      refine J_iconst (pc := 26) (v := nI 0) dX8_swap_26 (by decide) ?_
      exact J_iret (pc := 27) dX8_swap_27 rfl ⟨trivial, ⟨mv, kn, dn, nI (tW 1 0), ⟨h19_4, h20_4, h21_4, h22_4, hbb_4, hbl_4, hb3_4⟩, hF4, gm, (by first | assumption | exact PM_sw hn2 (by assumption) (by assumption) (by assumption) (by assumption) (by omega)), (by first | assumption | exact Or.inl rfl)⟩⟩
    · refine J_if_neN (pc := 12) (tgt := 19) dX8_swap_12 (by decide) (by decide) (fun _ => ?_) (fun h => absurd h (by decide))
      refine J_iconst (pc := 19) (v := nI 0) dX8_swap_19 (by decide) ?_
      refine J_callV0 (pc := 20) (M := mX8_swap) (as := [.int (nI 0)]) dX8_swap_20 fw_X8_isThrown_ fl_X8_105 fm_X8_isThrown_ fe_X8_isThrown_ h19 (by decide) rfl rfl rfl (c_X8_isThrown_ hs (d := d - 1) (by omega) (w := w) (n := n) (mv := mv) (rw := rw) (nx := nx) (b := b) (bt := bt) (kn := kn) (en := en) (dn := dn) (rf := rf) (kk := kk) (th := th) ⟨h19, h20, h21, h22, hbb, hbl, hb3⟩ hn1 hn2 gm gr gx 0 (by first | assumption | omega) (kc := 0) (ks := 0)) (by omega) (st := []) (Nat.le_of_ble_eq_true rfl) rfl (kr_I fun v5 w5 hv5 hw5 => ?_) kx_I
      obtain ⟨hR5, hFc5⟩ := hw5
      obtain ⟨h19_5, h20_5, h21_5, h22_5, hbb_5, hbl_5, hb3_5⟩ := hR5
      have hF5 := hF.tr hFc5
      subst hv5
      show J X mX8_swap d kc ks 23 [some (.ref 19), some (.int (nI q1)), some (.int (nI q3)), none, none, none] [.int (nI 0)] w5 _
      refine J_if_eqN (pc := 23) (tgt := 28) dX8_swap_23 (by decide) (by decide) (fun _ => ?_) (fun h => absurd h (by decide))
      refine J_aload_n (pc := 28) dX8_swap_28 rfl rfl rfl ?_
      refine J_iload_n (pc := 29) dX8_swap_29 rfl rfl ?_
      refine J_iload_n (pc := 30) dX8_swap_30 rfl rfl ?_
      refine J_callV0 (pc := 31) (M := mX8_swap) (as := [.int (nI q1), .int (nI q3)]) dX8_swap_31 fw_X8_areUnlike fl_X8_127 fm_X8_areUnlike fe_X8_areUnlike h19_5 (by decide) rfl rfl rfl (c_X8_areUnlike hs (d := d - 1) (by omega) (w := w5) (n := n) (mv := mv) (rw := rw) (nx := nx) (b := b) (bt := bt) (kn := kn) (en := en) (dn := dn) (rf := rf) (kk := kk) (th := nI (tW 0 0)) ⟨h19_5, h20_5, h21_5, h22_5, hbb_5, hbl_5, hb3_5⟩ hn1 hn2 gm gr gx q1 q3 (by first | assumption | omega) (by first | assumption | omega) (kc := 0) (ks := 0)) (by omega) (st := []) (Nat.le_of_ble_eq_true rfl) rfl (kr_P fun v6 hv6 => ?_) kx_I
      obtain ⟨k6, rfl, hk6⟩ := hv6
      refine J_istore_n (pc := 34) dX8_swap_34 rfl (by decide) rfl ?_
      show J X mX8_swap d kc ks 35 [some (.ref 19), some (.int (nI q1)), some (.int (nI q3)), some (.int (nI k6)), none, none] [] w5 _
      refine J_iconst (pc := 35) (v := nI 0) dX8_swap_35 (by decide) ?_
      refine J_istore (pc := 36) dX8_swap_36 (by decide) rfl ?_
      show J X mX8_swap d kc ks 38 [some (.ref 19), some (.int (nI q1)), some (.int (nI q3)), some (.int (nI k6)), some (.int (nI 0)), none] [] w5 _
      have lp38_7 : ∀ (fuel : Nat) (w8 : List jC) (mv_38 : Nat → Nat) (c4 : Nat), (RM n mv_38 rw nx b bt kn en dn rf kk (nI (tW 0 0)) w8) → (FR b b w w8) → (∀ i, mv_38 i < 7) → (mv_38 = sw mv q1 q3 c4) → (c4 ≤ n) → (n - c4 < fuel) → J X mX8_swap d kc ks 38 [some (.ref 19), some (.int (nI q1)), some (.int (nI q3)), some (.int (nI k6)), some (.int (nI c4)), none] [] w8 (pI (fun _ => True) (fun w' => ∃ (mv' : Nat → Nat), ∃ (kn' : Int32), ∃ (dn' : Int32), ∃ (th' : Int32), RM n mv' rw nx b bt kn' en dn' rf kk th' w' ∧ FR b b w w' ∧ (∀ i, mv' i < 7) ∧ PM n mv' ∧ KB n kn' bt)) := by
        intro fuellp38_7
        induction fuellp38_7 with
        | zero => intros; omega
        | succ fuellp38_7 ihlp38_7 =>
          intro w8 mv_38 c4 hR9 hF10 gm11 hv38_0 hv38_1 hf12
          obtain ⟨h19_13, h20_13, h21_13, h22_13, hb_13, hbl_13, hb3_13⟩ := hR9
          refine J_iload (pc := 38) dX8_swap_38 rfl ?_
          refine J_aload_n (pc := 40) dX8_swap_40 rfl rfl rfl ?_
          refine J_get (pc := 41) (k := 0) dX8_swap_41 kC9 (by decide) ff_X8_7 h19_13 rfl ?_
          refine J_icmp_geN (pc := 44) (tgt := 95) dX8_swap_44 (by decide) (by omega) (by omega) (fun ht14 => ?_) (fun hf15 => ?_)
          · refine J_aload_n (pc := 95) dX8_swap_95 rfl rfl rfl ?_
            refine J_iconst (pc := 96) (v := (-1)) dX8_swap_96 (by decide) ?_
            refine J_putW (pc := 97) (k := 5) dX8_swap_97 kC9 (by decide) ff_X8_26 (Or.inl rfl) ⟨rfl, rfl⟩ h19_13 (by show 5 < 11; decide) (fun w16 hln16 hw16 hne16 => ?_)
            have h19_16 : w16[19]? = some (.inr (9, [.int (nI n), .ref 20, .ref 21, .ref 22, .ref b, .int (-1), .int en, .int dn, .int rf, .int kk, .int (nI (tW 0 0))])) := hw16
            have h20_16 := (hne16 20 (by omega)).trans h20_13
            have h21_16 := (hne16 21 (by omega)).trans h21_13
            have h22_16 := (hne16 22 (by omega)).trans h22_13
            have hb_16 := (hne16 _ (by omega)).trans hb_13
            have hF16 := hF10.st hln16 hne16 (Or.inl (by decide))
            refine J_aload_n (pc := 100) dX8_swap_100 rfl rfl rfl ?_
            refine J_iload_n (pc := 101) dX8_swap_101 rfl rfl ?_
            refine J_if_eqN (pc := 102) (tgt := 109) dX8_swap_102 (by decide) (by omega) (fun ht17 => ?_) (fun hf18 => ?_)
            · refine J_iconst (pc := 109) (v := nI 0) dX8_swap_109 (by decide) ?_
              refine J_callV0 (pc := 110) (M := mX8_swap) (as := [.int (nI 0)]) dX8_swap_110 fw_X8_told fl_X8_49 fm_X8_told fe_X8_told h19_16 (by decide) rfl rfl rfl (c_X8_told hs (d := d - 1) (by omega) (w := w16) (n := n) (mv := mv_38) (rw := rw) (nx := nx) (b := b) (bt := bt) (kn := (-1)) (en := en) (dn := dn) (rf := rf) (kk := kk) (th := nI (tW 0 0)) ⟨h19_16, h20_16, h21_16, h22_16, hb_16, hbl_13, hb3_13⟩ hn1 hn2 gm11 gr gx (nI 0) (kc := 0) (ks := 0)) (by omega) (st := []) (Nat.le_of_ble_eq_true rfl) rfl (kr_I fun v19 w19 hv19 hw19 => ?_) kx_I
              obtain ⟨hR19, hFc19⟩ := hw19
              obtain ⟨h19_19, h20_19, h21_19, h22_19, hbb_19, hbl_19, hb3_19⟩ := hR19
              have hF19 := hF16.tr hFc19
              subst hv19
              exact J_iret (pc := 113) dX8_swap_113 rfl ⟨trivial, ⟨mv_38, (-1), (dn + nI 1), nI (tW 0 0), ⟨h19_19, h20_19, h21_19, h22_19, hbb_19, hbl_19, hb3_19⟩, hF19, gm11, (by first | assumption | exact PM_sw hn2 (by assumption) (by assumption) (by assumption) (by assumption) (by omega)), (by first | assumption | exact Or.inl rfl)⟩⟩
            · refine J_iconst (pc := 105) (v := nI 1) dX8_swap_105 (by decide) ?_
              refine J_goto (pc := 106) (tgt := 110) dX8_swap_106 (by decide) ?_
              refine J_callV0 (pc := 110) (M := mX8_swap) (as := [.int (nI 1)]) dX8_swap_110 fw_X8_told fl_X8_49 fm_X8_told fe_X8_told h19_16 (by decide) rfl rfl rfl (c_X8_told hs (d := d - 1) (by omega) (w := w16) (n := n) (mv := mv_38) (rw := rw) (nx := nx) (b := b) (bt := bt) (kn := (-1)) (en := en) (dn := dn) (rf := rf) (kk := kk) (th := nI (tW 0 0)) ⟨h19_16, h20_16, h21_16, h22_16, hb_16, hbl_13, hb3_13⟩ hn1 hn2 gm11 gr gx (nI 1) (kc := 0) (ks := 0)) (by omega) (st := []) (Nat.le_of_ble_eq_true rfl) rfl (kr_I fun v20 w20 hv20 hw20 => ?_) kx_I
              obtain ⟨hR20, hFc20⟩ := hw20
              obtain ⟨h19_20, h20_20, h21_20, h22_20, hbb_20, hbl_20, hb3_20⟩ := hR20
              have hF20 := hF16.tr hFc20
              subst hv20
              exact J_iret (pc := 113) dX8_swap_113 rfl ⟨trivial, ⟨mv_38, (-1), (dn + nI 1), nI (tW 0 0), ⟨h19_20, h20_20, h21_20, h22_20, hbb_20, hbl_20, hb3_20⟩, hF20, gm11, (by first | assumption | exact PM_sw hn2 (by assumption) (by assumption) (by assumption) (by assumption) (by omega)), (by first | assumption | exact Or.inl rfl)⟩⟩
          · refine J_aload_n (pc := 47) dX8_swap_47 rfl rfl rfl ?_
            refine J_iload_n (pc := 48) dX8_swap_48 rfl rfl ?_
            refine J_iload (pc := 49) dX8_swap_49 rfl ?_
            refine J_callV0 (pc := 51) (M := mX8_swap) (as := [.int (nI q1), .int (nI c4)]) dX8_swap_51 fw_X8_at fl_X8_82 fm_X8_at fe_X8_at h19_13 (by decide) rfl rfl rfl (c_X8_at hs (d := d - 1) (by omega) (w := w8) (n := n) (mv := mv_38) (rw := rw) (nx := nx) (b := b) (bt := bt) (kn := kn) (en := en) (dn := dn) (rf := rf) (kk := kk) (th := nI (tW 0 0)) ⟨h19_13, h20_13, h21_13, h22_13, hb_13, hbl_13, hb3_13⟩ hn1 hn2 gm11 gr gx q1 c4 (by first | assumption | omega) (by first | assumption | omega) (kc := 0) (ks := 0)) (by omega) (st := []) (Nat.le_of_ble_eq_true rfl) rfl (kr_P fun v21 hv21 => ?_) kx_I
            subst hv21
            have hq22 := gm11 (q1 * 7 + c4)
            refine J_istore (pc := 54) dX8_swap_54 (by decide) rfl ?_
            show J X mX8_swap d kc ks 56 [some (.ref 19), some (.int (nI q1)), some (.int (nI q3)), some (.int (nI k6)), some (.int (nI c4)), some (.int (nI (mv_38 (q1 * 7 + c4))))] [] w8 _
            refine J_aload_n (pc := 56) dX8_swap_56 rfl rfl rfl ?_
            refine J_get (pc := 57) (k := 1) dX8_swap_57 kC9 (by decide) ff_X8_13 h19_13 rfl ?_
            refine J_iload_n (pc := 60) dX8_swap_60 rfl rfl ?_
            refine J_bipush (pc := 61) (v := nI 7) dX8_swap_61 (by decide) ?_
            refine J_imulN (pc := 63) dX8_swap_63 ?_
            refine J_iload (pc := 64) dX8_swap_64 rfl ?_
            refine J_iaddN (pc := 66) dX8_swap_66 ?_
            refine J_aload_n (pc := 67) dX8_swap_67 rfl rfl rfl ?_
            refine J_iload_n (pc := 68) dX8_swap_68 rfl rfl ?_
            refine J_iload (pc := 69) dX8_swap_69 rfl ?_
            refine J_callV0 (pc := 71) (M := mX8_swap) (as := [.int (nI q3), .int (nI c4)]) dX8_swap_71 fw_X8_at fl_X8_82 fm_X8_at fe_X8_at h19_13 (by decide) rfl rfl rfl (c_X8_at hs (d := d - 1) (by omega) (w := w8) (n := n) (mv := mv_38) (rw := rw) (nx := nx) (b := b) (bt := bt) (kn := kn) (en := en) (dn := dn) (rf := rf) (kk := kk) (th := nI (tW 0 0)) ⟨h19_13, h20_13, h21_13, h22_13, hb_13, hbl_13, hb3_13⟩ hn1 hn2 gm11 gr gx q3 c4 (by first | assumption | omega) (by first | assumption | omega) (kc := 0) (ks := 0)) (by omega) (st := [.int (nI ((q1 * 7) + c4)), .ref 20]) (Nat.le_of_ble_eq_true rfl) rfl (kr_P fun v23 hv23 => ?_) kx_I
            subst hv23
            have hq24 := gm11 (q3 * 7 + c4)
            refine J_iastF (pc := 74) dX8_swap_74 h20_13 (by omega) (by decide) (fun w25 hln25 hc25 hne25 => ?_)
            have hg25 : ∀ i, (up mv_38 ((q1 * 7) + c4) (mv_38 (q3 * 7 + c4))) i < 7 := up_b gm11 (by omega)
            have h19_25 := (hne25 19 (by omega)).trans h19_13
            have h21_25 := (hne25 21 (by omega)).trans h21_13
            have h22_25 := (hne25 22 (by omega)).trans h22_13
            have hb_25 := (hne25 _ (by omega)).trans hb_13
            have hF25 := hF10.st hln25 hne25 (Or.inl (by decide))
            refine J_aload_n (pc := 75) dX8_swap_75 rfl rfl rfl ?_
            refine J_get (pc := 76) (k := 1) dX8_swap_76 kC9 (by decide) ff_X8_13 h19_25 rfl ?_
            refine J_iload_n (pc := 79) dX8_swap_79 rfl rfl ?_
            refine J_bipush (pc := 80) (v := nI 7) dX8_swap_80 (by decide) ?_
            refine J_imulN (pc := 82) dX8_swap_82 ?_
            refine J_iload (pc := 83) dX8_swap_83 rfl ?_
            refine J_iaddN (pc := 85) dX8_swap_85 ?_
            refine J_iload (pc := 86) dX8_swap_86 rfl ?_
            refine J_iastF (pc := 88) dX8_swap_88 hc25 (by omega) (by decide) (fun w26 hln26 hc26 hne26 => ?_)
            have hg26 : ∀ i, (up (up mv_38 ((q1 * 7) + c4) (mv_38 (q3 * 7 + c4))) ((q3 * 7) + c4) (mv_38 (q1 * 7 + c4))) i < 7 := up_b hg25 (by omega)
            have h19_26 := (hne26 19 (by omega)).trans h19_25
            have h21_26 := (hne26 21 (by omega)).trans h21_25
            have h22_26 := (hne26 22 (by omega)).trans h22_25
            have hb_26 := (hne26 _ (by omega)).trans hb_25
            have hF26 := hF25.st hln26 hne26 (Or.inl (by decide))
            refine J_iincN (pc := 89) (b := 1) dX8_swap_89 rfl (by decide) (by decide) rfl ?_
            show J X mX8_swap d kc ks 92 [some (.ref 19), some (.int (nI q1)), some (.int (nI q3)), some (.int (nI k6)), some (.int (nI (c4 + 1))), some (.int (nI (mv_38 (q1 * 7 + c4))))] [] w26 _
            refine J_goto (pc := 92) (tgt := 38) dX8_swap_92 (by decide) ?_
            exact J_sub (L' := [some (.ref 19), some (.int (nI q1)), some (.int (nI q3)), some (.int (nI k6)), some (.int (nI (c4 + 1))), none]) ⟨rfl, ⟨rfl, ⟨rfl, ⟨rfl, ⟨rfl, trivial⟩⟩⟩⟩⟩ (ihlp38_7 w26 (up (up mv_38 ((q1 * 7) + c4) (mv_38 (q3 * 7 + c4))) ((q3 * 7) + c4) (mv_38 (q1 * 7 + c4))) (c4 + 1) ⟨h19_26, hc26, h21_26, h22_26, hb_26, hbl_13, hb3_13⟩ hF26 hg26 (by rw [hv38_0]; exact sw_s (by omega) (by omega) (by omega)) (by first | assumption | omega) (by omega))
      exact J_sub (L' := [some (.ref 19), some (.int (nI q1)), some (.int (nI q3)), some (.int (nI k6)), some (.int (nI 0)), none]) ⟨rfl, ⟨rfl, ⟨rfl, ⟨rfl, ⟨rfl, trivial⟩⟩⟩⟩⟩ (lp38_7 _ w5 mv 0 ⟨h19_5, h20_5, h21_5, h22_5, hbb_5, hbl_5, hb3_5⟩ hF5 gm (by exact (sw_0 _ _ _).symm) (by first | assumption | omega) (Nat.lt_succ_self _))
set_option maxRecDepth 100000 in
set_option maxHeartbeats 4000000 in
theorem c_X8_then {X : jX} (hs : X.1.stackTraces = false) {d : Nat} (hd : 2 ≤ d) {n : Nat} {mv rw nx : Nat → Nat} {b : Nat} {bt : List Int32} {kn en dn rf kk th : Int32} {w : List jC} (hR : RM n mv rw nx b bt kn en dn rf kk th w) (hn1 : 2 ≤ n) (hn2 : n ≤ 7) (gm : ∀ i, mv i < 7) (gr : ∀ i, rw i < 7) (gx : ∀ i, nx i < 7) (a : Int32) (c : Int32) (e : Int32) (hy0 : PM n mv) (hy1 : KB n kn bt) {kc ks : Nat} : jMet X mX8_then d kc ks [.ref 19, .int a, .int c, .int e] w (pI (fun _ => True) (fun w' => ∃ (mv' : Nat → Nat), ∃ (nx' : Nat → Nat), ∃ (kn' : Int32), ∃ (dn' : Int32), ∃ (th' : Int32), RM n mv' rw nx' b bt kn' en dn' rf kk th' w' ∧ FR b b w w' ∧ (∀ i, mv' i < 7) ∧ (∀ i, nx' i < 7) ∧ PM n mv' ∧ KB n kn' bt)) := by
  refine jMet_of hs (by decide +kernel) (Nat.le_of_ble_eq_true rfl) (L := [some (.ref 19), some (.int a), some (.int c), some (.int e), none]) rfl ?_
  have hfc := fc_7 hn2
  have hfp := fc_pos n
  obtain ⟨h19, h20, h21, h22, hbb, hbl, hb3⟩ := hR
  have hF : FR b b w w := FR.rf
  refine J_aload_n (pc := 0) dX8_then_0 rfl rfl rfl ?_
  refine J_iload_n (pc := 1) dX8_then_1 rfl rfl ?_
  refine J_callS0 (pc := 2) (M := mX8_then) (as := [.int a]) dX8_then_2 fw_X8_isCell fl_X8_108 fs_X8_isCell rfl (c_X8_isCell hs (d := d - 1) (by omega) (w := w) a (kc := 0) (ks := 0)) (by omega) (st := [.ref 19]) (Nat.le_of_ble_eq_true rfl) rfl (kr_P fun v1 hv1 => ?_) kx_I
  rcases hv1 with ⟨rfl, hk1_0⟩ | ⟨q1, rfl, hk1_0, rfl⟩
  · refine J_if_eqN (pc := 5) (tgt := 22) dX8_then_5 (by decide) (by decide) (fun _ => ?_) (fun h => absurd h (by decide))
    refine J_iconst (pc := 22) (v := nI 1) dX8_then_22 (by decide) ?_
    refine J_goto (pc := 23) (tgt := 27) dX8_then_23 (by decide) ?_
    refine J_callV0 (pc := 27) (M := mX8_then) (as := [.int (nI 1)]) dX8_then_27 fw_X8_isThrown_ fl_X8_105 fm_X8_isThrown_ fe_X8_isThrown_ h19 (by decide) rfl rfl rfl (c_X8_isThrown_ hs (d := d - 1) (by omega) (w := w) (n := n) (mv := mv) (rw := rw) (nx := nx) (b := b) (bt := bt) (kn := kn) (en := en) (dn := dn) (rf := rf) (kk := kk) (th := th) ⟨h19, h20, h21, h22, hbb, hbl, hb3⟩ hn1 hn2 gm gr gx 1 (by first | assumption | omega) (kc := 0) (ks := 0)) (by omega) (st := []) (Nat.le_of_ble_eq_true rfl) rfl (kr_I fun v2 w2 hv2 hw2 => ?_) kx_I
    obtain ⟨hR2, hFc2⟩ := hw2
    obtain ⟨h19_2, h20_2, h21_2, h22_2, hbb_2, hbl_2, hb3_2⟩ := hR2
    have hF2 := hF.tr hFc2
    subst hv2
    show J X mX8_then d kc ks 30 [some (.ref 19), some (.int a), some (.int c), some (.int e), none] [.int (nI 1)] w2 _
    refine J_if_eqN (pc := 30) (tgt := 35) dX8_then_30 (by decide) (by decide) (fun h => absurd h (by decide)) (fun _ => ?_)
    refine J_iconst (pc := 33) (v := nI 0) dX8_then_33 (by decide) ?_
    exact J_iret (pc := 34) dX8_then_34 rfl ⟨trivial, ⟨mv, nx, kn, dn, nI (tW 1 0), ⟨h19_2, h20_2, h21_2, h22_2, hbb_2, hbl_2, hb3_2⟩, hF2, gm, gx, (by first | assumption | exact PM_st hn2 (by assumption) (by assumption) (by assumption)), (by first | assumption | exact Or.inl rfl)⟩⟩
  · refine J_if_eqN (pc := 5) (tgt := 22) dX8_then_5 (by decide) (by decide) (fun h => absurd h (by decide)) (fun _ => ?_)
    refine J_iload_n (pc := 8) dX8_then_8 rfl rfl ?_
    refine J_callS0 (pc := 9) (M := mX8_then) (as := [.int c]) dX8_then_9 fw_X8_isCell fl_X8_108 fs_X8_isCell rfl (c_X8_isCell hs (d := d - 1) (by omega) (w := w) c (kc := 0) (ks := 0)) (by omega) (st := [.ref 19]) (Nat.le_of_ble_eq_true rfl) rfl (kr_P fun v3 hv3 => ?_) kx_I
    rcases hv3 with ⟨rfl, hk3_0⟩ | ⟨q3, rfl, hk3_0, rfl⟩
    · refine J_if_eqN (pc := 12) (tgt := 22) dX8_then_12 (by decide) (by decide) (fun _ => ?_) (fun h => absurd h (by decide))
      refine J_iconst (pc := 22) (v := nI 1) dX8_then_22 (by decide) ?_
      refine J_goto (pc := 23) (tgt := 27) dX8_then_23 (by decide) ?_
      refine J_callV0 (pc := 27) (M := mX8_then) (as := [.int (nI 1)]) dX8_then_27 fw_X8_isThrown_ fl_X8_105 fm_X8_isThrown_ fe_X8_isThrown_ h19 (by decide) rfl rfl rfl (c_X8_isThrown_ hs (d := d - 1) (by omega) (w := w) (n := n) (mv := mv) (rw := rw) (nx := nx) (b := b) (bt := bt) (kn := kn) (en := en) (dn := dn) (rf := rf) (kk := kk) (th := th) ⟨h19, h20, h21, h22, hbb, hbl, hb3⟩ hn1 hn2 gm gr gx 1 (by first | assumption | omega) (kc := 0) (ks := 0)) (by omega) (st := []) (Nat.le_of_ble_eq_true rfl) rfl (kr_I fun v4 w4 hv4 hw4 => ?_) kx_I
      obtain ⟨hR4, hFc4⟩ := hw4
      obtain ⟨h19_4, h20_4, h21_4, h22_4, hbb_4, hbl_4, hb3_4⟩ := hR4
      have hF4 := hF.tr hFc4
      subst hv4
      show J X mX8_then d kc ks 30 [some (.ref 19), some (.int (nI q1)), some (.int c), some (.int e), none] [.int (nI 1)] w4 _
      refine J_if_eqN (pc := 30) (tgt := 35) dX8_then_30 (by decide) (by decide) (fun h => absurd h (by decide)) (fun _ => ?_)
      refine J_iconst (pc := 33) (v := nI 0) dX8_then_33 (by decide) ?_
      exact J_iret (pc := 34) dX8_then_34 rfl ⟨trivial, ⟨mv, nx, kn, dn, nI (tW 1 0), ⟨h19_4, h20_4, h21_4, h22_4, hbb_4, hbl_4, hb3_4⟩, hF4, gm, gx, (by first | assumption | exact PM_st hn2 (by assumption) (by assumption) (by assumption)), (by first | assumption | exact Or.inl rfl)⟩⟩
    · refine J_if_eqN (pc := 12) (tgt := 22) dX8_then_12 (by decide) (by decide) (fun h => absurd h (by decide)) (fun _ => ?_)
      refine J_iload_n (pc := 15) dX8_then_15 rfl rfl ?_
      refine J_callS0 (pc := 16) (M := mX8_then) (as := [.int e]) dX8_then_16 fw_X8_isCell fl_X8_108 fs_X8_isCell rfl (c_X8_isCell hs (d := d - 1) (by omega) (w := w) e (kc := 0) (ks := 0)) (by omega) (st := [.ref 19]) (Nat.le_of_ble_eq_true rfl) rfl (kr_P fun v5 hv5 => ?_) kx_I
      rcases hv5 with ⟨rfl, hk5_0⟩ | ⟨q5, rfl, hk5_0, rfl⟩
      · refine J_if_neN (pc := 19) (tgt := 26) dX8_then_19 (by decide) (by decide) (fun h => absurd h (by decide)) (fun _ => ?_)
        refine J_iconst (pc := 22) (v := nI 1) dX8_then_22 (by decide) ?_
        refine J_goto (pc := 23) (tgt := 27) dX8_then_23 (by decide) ?_
        refine J_callV0 (pc := 27) (M := mX8_then) (as := [.int (nI 1)]) dX8_then_27 fw_X8_isThrown_ fl_X8_105 fm_X8_isThrown_ fe_X8_isThrown_ h19 (by decide) rfl rfl rfl (c_X8_isThrown_ hs (d := d - 1) (by omega) (w := w) (n := n) (mv := mv) (rw := rw) (nx := nx) (b := b) (bt := bt) (kn := kn) (en := en) (dn := dn) (rf := rf) (kk := kk) (th := th) ⟨h19, h20, h21, h22, hbb, hbl, hb3⟩ hn1 hn2 gm gr gx 1 (by first | assumption | omega) (kc := 0) (ks := 0)) (by omega) (st := []) (Nat.le_of_ble_eq_true rfl) rfl (kr_I fun v6 w6 hv6 hw6 => ?_) kx_I
        obtain ⟨hR6, hFc6⟩ := hw6
        obtain ⟨h19_6, h20_6, h21_6, h22_6, hbb_6, hbl_6, hb3_6⟩ := hR6
        have hF6 := hF.tr hFc6
        subst hv6
        show J X mX8_then d kc ks 30 [some (.ref 19), some (.int (nI q1)), some (.int (nI q3)), some (.int e), none] [.int (nI 1)] w6 _
        refine J_if_eqN (pc := 30) (tgt := 35) dX8_then_30 (by decide) (by decide) (fun h => absurd h (by decide)) (fun _ => ?_)
        refine J_iconst (pc := 33) (v := nI 0) dX8_then_33 (by decide) ?_
        exact J_iret (pc := 34) dX8_then_34 rfl ⟨trivial, ⟨mv, nx, kn, dn, nI (tW 1 0), ⟨h19_6, h20_6, h21_6, h22_6, hbb_6, hbl_6, hb3_6⟩, hF6, gm, gx, (by first | assumption | exact PM_st hn2 (by assumption) (by assumption) (by assumption)), (by first | assumption | exact Or.inl rfl)⟩⟩
      · refine J_if_neN (pc := 19) (tgt := 26) dX8_then_19 (by decide) (by decide) (fun _ => ?_) (fun h => absurd h (by decide))
        refine J_iconst (pc := 26) (v := nI 0) dX8_then_26 (by decide) ?_
        refine J_callV0 (pc := 27) (M := mX8_then) (as := [.int (nI 0)]) dX8_then_27 fw_X8_isThrown_ fl_X8_105 fm_X8_isThrown_ fe_X8_isThrown_ h19 (by decide) rfl rfl rfl (c_X8_isThrown_ hs (d := d - 1) (by omega) (w := w) (n := n) (mv := mv) (rw := rw) (nx := nx) (b := b) (bt := bt) (kn := kn) (en := en) (dn := dn) (rf := rf) (kk := kk) (th := th) ⟨h19, h20, h21, h22, hbb, hbl, hb3⟩ hn1 hn2 gm gr gx 0 (by first | assumption | omega) (kc := 0) (ks := 0)) (by omega) (st := []) (Nat.le_of_ble_eq_true rfl) rfl (kr_I fun v7 w7 hv7 hw7 => ?_) kx_I
        obtain ⟨hR7, hFc7⟩ := hw7
        obtain ⟨h19_7, h20_7, h21_7, h22_7, hbb_7, hbl_7, hb3_7⟩ := hR7
        have hF7 := hF.tr hFc7
        subst hv7
        show J X mX8_then d kc ks 30 [some (.ref 19), some (.int (nI q1)), some (.int (nI q3)), some (.int (nI q5)), none] [.int (nI 0)] w7 _
        refine J_if_eqN (pc := 30) (tgt := 35) dX8_then_30 (by decide) (by decide) (fun _ => ?_) (fun h => absurd h (by decide))
        refine J_iconst (pc := 35) (v := nI 0) dX8_then_35 (by decide) ?_
        refine J_istore (pc := 36) dX8_then_36 (by decide) rfl ?_
        show J X mX8_then d kc ks 38 [some (.ref 19), some (.int (nI q1)), some (.int (nI q3)), some (.int (nI q5)), some (.int (nI 0))] [] w7 _
        have lp38_8 : ∀ (fuel : Nat) (w9 : List jC) (nx_38 : Nat → Nat) (c4 : Nat), (RM n mv rw nx_38 b bt kn en dn rf kk (nI (tW 0 0)) w9) → (FR b b w w9) → (∀ i, nx_38 i < 7) → (∀ p, p < c4 → nx_38 p = mv (q3 * 7 + mv (q1 * 7 + p))) → (c4 ≤ n) → (n - c4 < fuel) → J X mX8_then d kc ks 38 [some (.ref 19), some (.int (nI q1)), some (.int (nI q3)), some (.int (nI q5)), some (.int (nI c4))] [] w9 (pI (fun _ => True) (fun w' => ∃ (mv' : Nat → Nat), ∃ (nx' : Nat → Nat), ∃ (kn' : Int32), ∃ (dn' : Int32), ∃ (th' : Int32), RM n mv' rw nx' b bt kn' en dn' rf kk th' w' ∧ FR b b w w' ∧ (∀ i, mv' i < 7) ∧ (∀ i, nx' i < 7) ∧ PM n mv' ∧ KB n kn' bt)) := by
          intro fuellp38_8
          induction fuellp38_8 with
          | zero => intros; omega
          | succ fuellp38_8 ihlp38_8 =>
            intro w9 nx_38 c4 hR10 hF11 gx12 hv38_0 hv38_1 hf13
            obtain ⟨h19_14, h20_14, h21_14, h22_14, hb_14, hbl_14, hb3_14⟩ := hR10
            refine J_iload (pc := 38) dX8_then_38 rfl ?_
            refine J_aload_n (pc := 40) dX8_then_40 rfl rfl rfl ?_
            refine J_get (pc := 41) (k := 0) dX8_then_41 kC9 (by decide) ff_X8_7 h19_14 rfl ?_
            refine J_icmp_geN (pc := 44) (tgt := 72) dX8_then_44 (by decide) (by omega) (by omega) (fun ht15 => ?_) (fun hf16 => ?_)
            · have hPx := (Pn.comp (hy0 q1 (by omega)) (hy0 q3 (by omega))).congr (g := nx_38) (fun p hp => hv38_0 p (by omega))
              refine J_aload_n (pc := 72) dX8_then_72 rfl rfl rfl ?_
              refine J_iload_n (pc := 73) dX8_then_73 rfl rfl ?_
              refine J_aload_n (pc := 74) dX8_then_74 rfl rfl rfl ?_
              refine J_get (pc := 75) (k := 3) dX8_then_75 kC9 (by decide) ff_X8_20 h19_14 rfl ?_
              refine J_callV0 (pc := 78) (M := mX8_then) (as := [.int (nI q5), .ref 22]) dX8_then_78 fw_X8_get fl_X8_111 fm_X8_get fe_X8_get h19_14 (by decide) rfl rfl rfl (c_X8_get_at22 hs (d := d - 1) (by omega) (w := w9) (n := n) (mv := mv) (rw := rw) (nx := nx_38) (b := b) (bt := bt) (kn := kn) (en := en) (dn := dn) (rf := rf) (kk := kk) (th := nI (tW 0 0)) ⟨h19_14, h20_14, h21_14, h22_14, hb_14, hbl_14, hb3_14⟩ hn1 hn2 gm gr gx12 q5 (by first | assumption | omega) (kc := 0) (ks := 0)) (by omega) (st := []) (Nat.le_of_ble_eq_true rfl) rfl (kr_I fun v17 w17 hv17 hw17 => ?_) kx_I
              obtain ⟨mv17, hR17, hFc17, hgmv17, hp17_0⟩ := hw17
              obtain ⟨h19_17, h20_17, h21_17, h22_17, hbb_17, hbl_17, hb3_17⟩ := hR17
              have hF17 := hF11.tr hFc17
              subst hv17
              exact J_iret (pc := 81) dX8_then_81 rfl ⟨trivial, ⟨mv17, nx_38, (-1), (dn + nI 1), nI (tW 0 0), ⟨h19_17, h20_17, h21_17, h22_17, hbb_17, hbl_17, hb3_17⟩, hF17, hgmv17, gx12, (by first | assumption | exact PM_st hn2 (by assumption) (by assumption) (by assumption)), (by first | assumption | exact Or.inl rfl)⟩⟩
            · refine J_aload_n (pc := 47) dX8_then_47 rfl rfl rfl ?_
              refine J_get (pc := 48) (k := 3) dX8_then_48 kC9 (by decide) ff_X8_20 h19_14 rfl ?_
              refine J_iload (pc := 51) dX8_then_51 rfl ?_
              refine J_aload_n (pc := 53) dX8_then_53 rfl rfl rfl ?_
              refine J_iload_n (pc := 54) dX8_then_54 rfl rfl ?_
              refine J_aload_n (pc := 55) dX8_then_55 rfl rfl rfl ?_
              refine J_iload_n (pc := 56) dX8_then_56 rfl rfl ?_
              refine J_iload (pc := 57) dX8_then_57 rfl ?_
              refine J_callV0 (pc := 59) (M := mX8_then) (as := [.int (nI q1), .int (nI c4)]) dX8_then_59 fw_X8_at fl_X8_82 fm_X8_at fe_X8_at h19_14 (by decide) rfl rfl rfl (c_X8_at hs (d := d - 1) (by omega) (w := w9) (n := n) (mv := mv) (rw := rw) (nx := nx_38) (b := b) (bt := bt) (kn := kn) (en := en) (dn := dn) (rf := rf) (kk := kk) (th := nI (tW 0 0)) ⟨h19_14, h20_14, h21_14, h22_14, hb_14, hbl_14, hb3_14⟩ hn1 hn2 gm gr gx12 q1 c4 (by first | assumption | omega) (by first | assumption | omega) (kc := 0) (ks := 0)) (by omega) (st := [.int (nI q3), .ref 19, .int (nI c4), .ref 22]) (Nat.le_of_ble_eq_true rfl) rfl (kr_P fun v18 hv18 => ?_) kx_I
              subst hv18
              have hq19 := gm (q1 * 7 + c4)
              refine J_callV0 (pc := 62) (M := mX8_then) (as := [.int (nI q3), .int (nI (mv (q1 * 7 + c4)))]) dX8_then_62 fw_X8_at fl_X8_82 fm_X8_at fe_X8_at h19_14 (by decide) rfl rfl rfl (c_X8_at hs (d := d - 1) (by omega) (w := w9) (n := n) (mv := mv) (rw := rw) (nx := nx_38) (b := b) (bt := bt) (kn := kn) (en := en) (dn := dn) (rf := rf) (kk := kk) (th := nI (tW 0 0)) ⟨h19_14, h20_14, h21_14, h22_14, hb_14, hbl_14, hb3_14⟩ hn1 hn2 gm gr gx12 q3 (mv (q1 * 7 + c4)) (by first | assumption | omega) (by first | assumption | omega) (kc := 0) (ks := 0)) (by omega) (st := [.int (nI c4), .ref 22]) (Nat.le_of_ble_eq_true rfl) rfl (kr_P fun v20 hv20 => ?_) kx_I
              subst hv20
              have hq21 := gm (q3 * 7 + (mv (q1 * 7 + c4)))
              refine J_iastF (pc := 65) dX8_then_65 h22_14 (by omega) (by decide) (fun w22 hln22 hc22 hne22 => ?_)
              have hg22 : ∀ i, (up nx_38 c4 (mv (q3 * 7 + (mv (q1 * 7 + c4))))) i < 7 := up_b gx12 (by omega)
              have h19_22 := (hne22 19 (by omega)).trans h19_14
              have h20_22 := (hne22 20 (by omega)).trans h20_14
              have h21_22 := (hne22 21 (by omega)).trans h21_14
              have hb_22 := (hne22 _ (by omega)).trans hb_14
              have hF22 := hF11.st hln22 hne22 (Or.inl (by decide))
              refine J_iincN (pc := 66) (b := 1) dX8_then_66 rfl (by decide) (by decide) rfl ?_
              show J X mX8_then d kc ks 69 [some (.ref 19), some (.int (nI q1)), some (.int (nI q3)), some (.int (nI q5)), some (.int (nI (c4 + 1)))] [] w22 _
              refine J_goto (pc := 69) (tgt := 38) dX8_then_69 (by decide) ?_
              exact J_sub (L' := [some (.ref 19), some (.int (nI q1)), some (.int (nI q3)), some (.int (nI q5)), some (.int (nI (c4 + 1)))]) ⟨rfl, ⟨rfl, ⟨rfl, ⟨rfl, ⟨rfl, trivial⟩⟩⟩⟩⟩ (ihlp38_8 w22 (up nx_38 c4 (mv (q3 * 7 + (mv (q1 * 7 + c4))))) (c4 + 1) ⟨h19_22, h20_22, h21_22, hc22, hb_22, hbl_14, hb3_14⟩ hF22 hg22 (by intro p hp; by_cases e : p = c4; (subst e; exact up_s _ _ _); (rw [up_n e]; exact hv38_0 p (by omega))) (by first | assumption | omega) (by omega))
        exact J_sub (L' := [some (.ref 19), some (.int (nI q1)), some (.int (nI q3)), some (.int (nI q5)), some (.int (nI 0))]) ⟨rfl, ⟨rfl, ⟨rfl, ⟨rfl, ⟨rfl, trivial⟩⟩⟩⟩⟩ (lp38_8 _ w7 nx 0 ⟨h19_7, h20_7, h21_7, h22_7, hbb_7, hbl_7, hb3_7⟩ hF7 gx (by intro p hp; omega) (by first | assumption | omega) (Nat.lt_succ_self _))
set_option maxRecDepth 100000 in
set_option maxHeartbeats 4000000 in
theorem c_X8_undo {X : jX} (hs : X.1.stackTraces = false) {d : Nat} (hd : 2 ≤ d) {n : Nat} {mv rw nx : Nat → Nat} {b : Nat} {bt : List Int32} {kn en dn rf kk th : Int32} {w : List jC} (hR : RM n mv rw nx b bt kn en dn rf kk th w) (hn1 : 2 ≤ n) (hn2 : n ≤ 7) (gm : ∀ i, mv i < 7) (gr : ∀ i, rw i < 7) (gx : ∀ i, nx i < 7) (a : Int32) (c : Int32) (hy0 : PM n mv) (hy1 : KB n kn bt) {kc ks : Nat} : jMet X mX8_undo d kc ks [.ref 19, .int a, .int c] w (pI (fun _ => True) (fun w' => ∃ (mv' : Nat → Nat), ∃ (nx' : Nat → Nat), ∃ (kn' : Int32), ∃ (dn' : Int32), ∃ (th' : Int32), RM n mv' rw nx' b bt kn' en dn' rf kk th' w' ∧ FR b b w w' ∧ (∀ i, mv' i < 7) ∧ (∀ i, nx' i < 7) ∧ PM n mv' ∧ KB n kn' bt)) := by
  refine jMet_of hs (by decide +kernel) (Nat.le_of_ble_eq_true rfl) (L := [some (.ref 19), some (.int a), some (.int c), none]) rfl ?_
  have hfc := fc_7 hn2
  have hfp := fc_pos n
  obtain ⟨h19, h20, h21, h22, hbb, hbl, hb3⟩ := hR
  have hF : FR b b w w := FR.rf
  refine J_aload_n (pc := 0) dX8_undo_0 rfl rfl rfl ?_
  refine J_iload_n (pc := 1) dX8_undo_1 rfl rfl ?_
  refine J_callS0 (pc := 2) (M := mX8_undo) (as := [.int a]) dX8_undo_2 fw_X8_isCell fl_X8_108 fs_X8_isCell rfl (c_X8_isCell hs (d := d - 1) (by omega) (w := w) a (kc := 0) (ks := 0)) (by omega) (st := [.ref 19]) (Nat.le_of_ble_eq_true rfl) rfl (kr_P fun v1 hv1 => ?_) kx_I
  rcases hv1 with ⟨rfl, hk1_0⟩ | ⟨q1, rfl, hk1_0, rfl⟩
  · refine J_if_eqN (pc := 5) (tgt := 15) dX8_undo_5 (by decide) (by decide) (fun _ => ?_) (fun h => absurd h (by decide))
    refine J_iconst (pc := 15) (v := nI 1) dX8_undo_15 (by decide) ?_
    refine J_goto (pc := 16) (tgt := 20) dX8_undo_16 (by decide) ?_
    refine J_callV0 (pc := 20) (M := mX8_undo) (as := [.int (nI 1)]) dX8_undo_20 fw_X8_isThrown_ fl_X8_105 fm_X8_isThrown_ fe_X8_isThrown_ h19 (by decide) rfl rfl rfl (c_X8_isThrown_ hs (d := d - 1) (by omega) (w := w) (n := n) (mv := mv) (rw := rw) (nx := nx) (b := b) (bt := bt) (kn := kn) (en := en) (dn := dn) (rf := rf) (kk := kk) (th := th) ⟨h19, h20, h21, h22, hbb, hbl, hb3⟩ hn1 hn2 gm gr gx 1 (by first | assumption | omega) (kc := 0) (ks := 0)) (by omega) (st := []) (Nat.le_of_ble_eq_true rfl) rfl (kr_I fun v2 w2 hv2 hw2 => ?_) kx_I
    obtain ⟨hR2, hFc2⟩ := hw2
    obtain ⟨h19_2, h20_2, h21_2, h22_2, hbb_2, hbl_2, hb3_2⟩ := hR2
    have hF2 := hF.tr hFc2
    subst hv2
    show J X mX8_undo d kc ks 23 [some (.ref 19), some (.int a), some (.int c), none] [.int (nI 1)] w2 _
    refine J_if_eqN (pc := 23) (tgt := 28) dX8_undo_23 (by decide) (by decide) (fun h => absurd h (by decide)) (fun _ => ?_)
    refine J_iconst (pc := 26) (v := nI 0) dX8_undo_26 (by decide) ?_
    exact J_iret (pc := 27) dX8_undo_27 rfl ⟨trivial, ⟨mv, nx, kn, dn, nI (tW 1 0), ⟨h19_2, h20_2, h21_2, h22_2, hbb_2, hbl_2, hb3_2⟩, hF2, gm, gx, (by first | assumption | exact PM_st hn2 (by assumption) (by assumption) (by assumption)), (by first | assumption | exact Or.inl rfl)⟩⟩
  · refine J_if_eqN (pc := 5) (tgt := 15) dX8_undo_5 (by decide) (by decide) (fun h => absurd h (by decide)) (fun _ => ?_)
    refine J_iload_n (pc := 8) dX8_undo_8 rfl rfl ?_
    refine J_callS0 (pc := 9) (M := mX8_undo) (as := [.int c]) dX8_undo_9 fw_X8_isCell fl_X8_108 fs_X8_isCell rfl (c_X8_isCell hs (d := d - 1) (by omega) (w := w) c (kc := 0) (ks := 0)) (by omega) (st := [.ref 19]) (Nat.le_of_ble_eq_true rfl) rfl (kr_P fun v3 hv3 => ?_) kx_I
    rcases hv3 with ⟨rfl, hk3_0⟩ | ⟨q3, rfl, hk3_0, rfl⟩
    · refine J_if_neN (pc := 12) (tgt := 19) dX8_undo_12 (by decide) (by decide) (fun h => absurd h (by decide)) (fun _ => ?_)
      refine J_iconst (pc := 15) (v := nI 1) dX8_undo_15 (by decide) ?_
      refine J_goto (pc := 16) (tgt := 20) dX8_undo_16 (by decide) ?_
      refine J_callV0 (pc := 20) (M := mX8_undo) (as := [.int (nI 1)]) dX8_undo_20 fw_X8_isThrown_ fl_X8_105 fm_X8_isThrown_ fe_X8_isThrown_ h19 (by decide) rfl rfl rfl (c_X8_isThrown_ hs (d := d - 1) (by omega) (w := w) (n := n) (mv := mv) (rw := rw) (nx := nx) (b := b) (bt := bt) (kn := kn) (en := en) (dn := dn) (rf := rf) (kk := kk) (th := th) ⟨h19, h20, h21, h22, hbb, hbl, hb3⟩ hn1 hn2 gm gr gx 1 (by first | assumption | omega) (kc := 0) (ks := 0)) (by omega) (st := []) (Nat.le_of_ble_eq_true rfl) rfl (kr_I fun v4 w4 hv4 hw4 => ?_) kx_I
      obtain ⟨hR4, hFc4⟩ := hw4
      obtain ⟨h19_4, h20_4, h21_4, h22_4, hbb_4, hbl_4, hb3_4⟩ := hR4
      have hF4 := hF.tr hFc4
      subst hv4
      show J X mX8_undo d kc ks 23 [some (.ref 19), some (.int (nI q1)), some (.int c), none] [.int (nI 1)] w4 _
      refine J_if_eqN (pc := 23) (tgt := 28) dX8_undo_23 (by decide) (by decide) (fun h => absurd h (by decide)) (fun _ => ?_)
      refine J_iconst (pc := 26) (v := nI 0) dX8_undo_26 (by decide) ?_
      exact J_iret (pc := 27) dX8_undo_27 rfl ⟨trivial, ⟨mv, nx, kn, dn, nI (tW 1 0), ⟨h19_4, h20_4, h21_4, h22_4, hbb_4, hbl_4, hb3_4⟩, hF4, gm, gx, (by first | assumption | exact PM_st hn2 (by assumption) (by assumption) (by assumption)), (by first | assumption | exact Or.inl rfl)⟩⟩
    · refine J_if_neN (pc := 12) (tgt := 19) dX8_undo_12 (by decide) (by decide) (fun _ => ?_) (fun h => absurd h (by decide))
      refine J_iconst (pc := 19) (v := nI 0) dX8_undo_19 (by decide) ?_
      refine J_callV0 (pc := 20) (M := mX8_undo) (as := [.int (nI 0)]) dX8_undo_20 fw_X8_isThrown_ fl_X8_105 fm_X8_isThrown_ fe_X8_isThrown_ h19 (by decide) rfl rfl rfl (c_X8_isThrown_ hs (d := d - 1) (by omega) (w := w) (n := n) (mv := mv) (rw := rw) (nx := nx) (b := b) (bt := bt) (kn := kn) (en := en) (dn := dn) (rf := rf) (kk := kk) (th := th) ⟨h19, h20, h21, h22, hbb, hbl, hb3⟩ hn1 hn2 gm gr gx 0 (by first | assumption | omega) (kc := 0) (ks := 0)) (by omega) (st := []) (Nat.le_of_ble_eq_true rfl) rfl (kr_I fun v5 w5 hv5 hw5 => ?_) kx_I
      obtain ⟨hR5, hFc5⟩ := hw5
      obtain ⟨h19_5, h20_5, h21_5, h22_5, hbb_5, hbl_5, hb3_5⟩ := hR5
      have hF5 := hF.tr hFc5
      subst hv5
      show J X mX8_undo d kc ks 23 [some (.ref 19), some (.int (nI q1)), some (.int (nI q3)), none] [.int (nI 0)] w5 _
      refine J_if_eqN (pc := 23) (tgt := 28) dX8_undo_23 (by decide) (by decide) (fun _ => ?_) (fun h => absurd h (by decide))
      refine J_iconst (pc := 28) (v := nI 0) dX8_undo_28 (by decide) ?_
      refine J_istore_n (pc := 29) dX8_undo_29 rfl (by decide) rfl ?_
      show J X mX8_undo d kc ks 30 [some (.ref 19), some (.int (nI q1)), some (.int (nI q3)), some (.int (nI 0))] [] w5 _
      have lp30_6 : ∀ (fuel : Nat) (w7 : List jC) (nx_30 : Nat → Nat) (c3 : Nat), (RM n mv rw nx_30 b bt kn en dn rf kk (nI (tW 0 0)) w7) → (FR b b w w7) → (∀ i, nx_30 i < 7) → (∀ p, p < c3 → nx_30 (mv (q1 * 7 + p)) = p) → (c3 ≤ n) → (n - c3 < fuel) → J X mX8_undo d kc ks 30 [some (.ref 19), some (.int (nI q1)), some (.int (nI q3)), some (.int (nI c3))] [] w7 (pI (fun _ => True) (fun w' => ∃ (mv' : Nat → Nat), ∃ (nx' : Nat → Nat), ∃ (kn' : Int32), ∃ (dn' : Int32), ∃ (th' : Int32), RM n mv' rw nx' b bt kn' en dn' rf kk th' w' ∧ FR b b w w' ∧ (∀ i, mv' i < 7) ∧ (∀ i, nx' i < 7) ∧ PM n mv' ∧ KB n kn' bt)) := by
        intro fuellp30_6
        induction fuellp30_6 with
        | zero => intros; omega
        | succ fuellp30_6 ihlp30_6 =>
          intro w7 nx_30 c3 hR8 hF9 gx10 hv30_0 hv30_1 hf11
          obtain ⟨h19_12, h20_12, h21_12, h22_12, hb_12, hbl_12, hb3_12⟩ := hR8
          refine J_iload_n (pc := 30) dX8_undo_30 rfl rfl ?_
          refine J_aload_n (pc := 31) dX8_undo_31 rfl rfl rfl ?_
          refine J_get (pc := 32) (k := 0) dX8_undo_32 kC9 (by decide) ff_X8_7 h19_12 rfl ?_
          refine J_icmp_geN (pc := 35) (tgt := 56) dX8_undo_35 (by decide) (by omega) (by omega) (fun ht13 => ?_) (fun hf14 => ?_)
          · have hPx := Pn_inv (g := nx_30) (hy0 q1 (by omega)) (Pn_id n) (fun p hp => hv30_0 p (by omega))
            refine J_aload_n (pc := 56) dX8_undo_56 rfl rfl rfl ?_
            refine J_iload_n (pc := 57) dX8_undo_57 rfl rfl ?_
            refine J_aload_n (pc := 58) dX8_undo_58 rfl rfl rfl ?_
            refine J_get (pc := 59) (k := 3) dX8_undo_59 kC9 (by decide) ff_X8_20 h19_12 rfl ?_
            refine J_callV0 (pc := 62) (M := mX8_undo) (as := [.int (nI q3), .ref 22]) dX8_undo_62 fw_X8_get fl_X8_111 fm_X8_get fe_X8_get h19_12 (by decide) rfl rfl rfl (c_X8_get_at22 hs (d := d - 1) (by omega) (w := w7) (n := n) (mv := mv) (rw := rw) (nx := nx_30) (b := b) (bt := bt) (kn := kn) (en := en) (dn := dn) (rf := rf) (kk := kk) (th := nI (tW 0 0)) ⟨h19_12, h20_12, h21_12, h22_12, hb_12, hbl_12, hb3_12⟩ hn1 hn2 gm gr gx10 q3 (by first | assumption | omega) (kc := 0) (ks := 0)) (by omega) (st := []) (Nat.le_of_ble_eq_true rfl) rfl (kr_I fun v15 w15 hv15 hw15 => ?_) kx_I
            obtain ⟨mv15, hR15, hFc15, hgmv15, hp15_0⟩ := hw15
            obtain ⟨h19_15, h20_15, h21_15, h22_15, hbb_15, hbl_15, hb3_15⟩ := hR15
            have hF15 := hF9.tr hFc15
            subst hv15
            exact J_iret (pc := 65) dX8_undo_65 rfl ⟨trivial, ⟨mv15, nx_30, (-1), (dn + nI 1), nI (tW 0 0), ⟨h19_15, h20_15, h21_15, h22_15, hbb_15, hbl_15, hb3_15⟩, hF15, hgmv15, gx10, (by first | assumption | exact PM_st hn2 (by assumption) (by assumption) (by assumption)), (by first | assumption | exact Or.inl rfl)⟩⟩
          · refine J_aload_n (pc := 38) dX8_undo_38 rfl rfl rfl ?_
            refine J_get (pc := 39) (k := 3) dX8_undo_39 kC9 (by decide) ff_X8_20 h19_12 rfl ?_
            refine J_aload_n (pc := 42) dX8_undo_42 rfl rfl rfl ?_
            refine J_iload_n (pc := 43) dX8_undo_43 rfl rfl ?_
            refine J_iload_n (pc := 44) dX8_undo_44 rfl rfl ?_
            refine J_callV0 (pc := 45) (M := mX8_undo) (as := [.int (nI q1), .int (nI c3)]) dX8_undo_45 fw_X8_at fl_X8_82 fm_X8_at fe_X8_at h19_12 (by decide) rfl rfl rfl (c_X8_at hs (d := d - 1) (by omega) (w := w7) (n := n) (mv := mv) (rw := rw) (nx := nx_30) (b := b) (bt := bt) (kn := kn) (en := en) (dn := dn) (rf := rf) (kk := kk) (th := nI (tW 0 0)) ⟨h19_12, h20_12, h21_12, h22_12, hb_12, hbl_12, hb3_12⟩ hn1 hn2 gm gr gx10 q1 c3 (by first | assumption | omega) (by first | assumption | omega) (kc := 0) (ks := 0)) (by omega) (st := [.ref 22]) (Nat.le_of_ble_eq_true rfl) rfl (kr_P fun v16 hv16 => ?_) kx_I
            subst hv16
            have hq17 := gm (q1 * 7 + c3)
            refine J_iload_n (pc := 48) dX8_undo_48 rfl rfl ?_
            refine J_iastF (pc := 49) dX8_undo_49 h22_12 (by omega) (by decide) (fun w18 hln18 hc18 hne18 => ?_)
            have hg18 : ∀ i, (up nx_30 (mv (q1 * 7 + c3)) c3) i < 7 := up_b gx10 (by omega)
            have h19_18 := (hne18 19 (by omega)).trans h19_12
            have h20_18 := (hne18 20 (by omega)).trans h20_12
            have h21_18 := (hne18 21 (by omega)).trans h21_12
            have hb_18 := (hne18 _ (by omega)).trans hb_12
            have hF18 := hF9.st hln18 hne18 (Or.inl (by decide))
            refine J_iincN (pc := 50) (b := 1) dX8_undo_50 rfl (by decide) (by decide) rfl ?_
            show J X mX8_undo d kc ks 53 [some (.ref 19), some (.int (nI q1)), some (.int (nI q3)), some (.int (nI (c3 + 1)))] [] w18 _
            refine J_goto (pc := 53) (tgt := 30) dX8_undo_53 (by decide) ?_
            exact J_sub (L' := [some (.ref 19), some (.int (nI q1)), some (.int (nI q3)), some (.int (nI (c3 + 1)))]) ⟨rfl, ⟨rfl, ⟨rfl, ⟨rfl, trivial⟩⟩⟩⟩ (ihlp30_6 w18 (up nx_30 (mv (q1 * 7 + c3)) c3) (c3 + 1) ⟨h19_18, h20_18, h21_18, hc18, hb_18, hbl_12, hb3_12⟩ hF18 hg18 (by intro p hp; by_cases e : p = c3; (subst e; exact up_s _ _ _); (rw [up_n (fun q => e ((hy0 q1 (by omega)).2 p c3 (by omega) (by omega) q))]; exact hv30_0 p (by omega))) (by first | assumption | omega) (by omega))
      exact J_sub (L' := [some (.ref 19), some (.int (nI q1)), some (.int (nI q3)), some (.int (nI 0))]) ⟨rfl, ⟨rfl, ⟨rfl, ⟨rfl, trivial⟩⟩⟩⟩ (lp30_6 _ w5 nx 0 ⟨h19_5, h20_5, h21_5, h22_5, hbb_5, hbl_5, hb3_5⟩ hF5 gx (by intro p hp; omega) (by first | assumption | omega) (Nat.lt_succ_self _))
