/-! contracts of the reference: rspec3 -/
set_option maxRecDepth 100000 in
set_option maxHeartbeats 4000000 in
theorem c_X8_turn {X : jX} (hs : X.1.stackTraces = false) {d : Nat} (hd : 3 ≤ d) {n : Nat} {mv rw nx : Nat → Nat} {b : Nat} {bt : List Int32} {kn en dn rf kk th : Int32} {w : List jC} (hR : RM n mv rw nx b bt kn en dn rf kk th w) (hn1 : 2 ≤ n) (hn2 : n ≤ 7) (gm : ∀ i, mv i < 7) (gr : ∀ i, rw i < 7) (gx : ∀ i, nx i < 7) (a : Int32) (c : Int32) (hy0 : PM n mv) (hy1 : KB n kn bt) {kc ks : Nat} : jMet X mX8_turn d kc ks [.ref 19, .int a, .int c] w (pI (fun _ => True) (fun w' => ∃ (mv' : Nat → Nat), ∃ (rw' : Nat → Nat), ∃ (nx' : Nat → Nat), ∃ (kn' : Int32), ∃ (dn' : Int32), ∃ (th' : Int32), RM n mv' rw' nx' b bt kn' en dn' rf kk th' w' ∧ FR b b w w' ∧ (∀ i, mv' i < 7) ∧ (∀ i, rw' i < 7) ∧ (∀ i, nx' i < 7) ∧ PM n mv' ∧ KB n kn' bt)) := by
  refine jMet_of hs (by decide +kernel) (Nat.le_of_ble_eq_true rfl) (L := [some (.ref 19), some (.int a), some (.int c), none]) rfl ?_
  have hfc := fc_7 hn2
  have hfp := fc_pos n
  obtain ⟨h19, h20, h21, h22, hbb, hbl, hb3⟩ := hR
  have hF : FR b b w w := FR.rf
  refine J_aload_n (pc := 0) dX8_turn_0 rfl rfl rfl ?_
  refine J_iload_n (pc := 1) dX8_turn_1 rfl rfl ?_
  refine J_callS0 (pc := 2) (M := mX8_turn) (as := [.int a]) dX8_turn_2 fw_X8_isCell fl_X8_108 fs_X8_isCell rfl (c_X8_isCell hs (d := d - 1) (by omega) (w := w) a (kc := 0) (ks := 0)) (by omega) (st := [.ref 19]) (Nat.le_of_ble_eq_true rfl) rfl (kr_P fun v1 hv1 => ?_) kx_I
  rcases hv1 with ⟨rfl, hk1_0⟩ | ⟨q1, rfl, hk1_0, rfl⟩
  · refine J_if_neN (pc := 5) (tgt := 12) dX8_turn_5 (by decide) (by decide) (fun h => absurd h (by decide)) (fun _ => ?_)
    refine J_iconst (pc := 8) (v := nI 1) dX8_turn_8 (by decide) ?_
    refine J_goto (pc := 9) (tgt := 13) dX8_turn_9 (by decide) ?_
    refine J_iload_n (pc := 13) dX8_turn_13 rfl rfl ?_
    refine J_bipush (pc := 14) (v := (-100)) dX8_turn_14 (by decide) ?_
    refine J_icmp_lt (pc := 16) (tgt := 25) dX8_turn_16 (by decide) (fun ht2 => ?_) (fun hf3 => ?_)
    · refine J_iconst (pc := 25) (v := nI 1) dX8_turn_25 (by decide) ?_
      refine J_goto (pc := 26) (tgt := 30) dX8_turn_26 (by decide) ?_
      refine J_callV0 (pc := 30) (M := mX8_turn) (as := [.int (nI 1), .int (nI 1)]) dX8_turn_30 fw_X8_isThrown fl_X8_35 fm_X8_isThrown fe_X8_isThrown h19 (by decide) rfl rfl rfl (c_X8_isThrown hs (d := d - 1) (by omega) (w := w) (n := n) (mv := mv) (rw := rw) (nx := nx) (b := b) (bt := bt) (kn := kn) (en := en) (dn := dn) (rf := rf) (kk := kk) (th := th) ⟨h19, h20, h21, h22, hbb, hbl, hb3⟩ hn1 hn2 gm gr gx 1 1 (by first | assumption | omega) (by first | assumption | omega) (kc := 0) (ks := 0)) (by omega) (st := []) (Nat.le_of_ble_eq_true rfl) rfl (kr_I fun v4 w4 hv4 hw4 => ?_) kx_I
      obtain ⟨hR4, hFc4⟩ := hw4
      obtain ⟨h19_4, h20_4, h21_4, h22_4, hbb_4, hbl_4, hb3_4⟩ := hR4
      have hF4 := hF.tr hFc4
      subst hv4
      show J X mX8_turn d kc ks 33 [some (.ref 19), some (.int a), some (.int c), none] [.int (nI 1)] w4 _
      refine J_if_eqN (pc := 33) (tgt := 38) dX8_turn_33 (by decide) (by decide) (fun h => absurd h (by decide)) (fun _ => ?_)
      refine J_iconst (pc := 36) (v := nI 0) dX8_turn_36 (by decide) ?_
      exact J_iret (pc := 37) dX8_turn_37 rfl ⟨trivial, ⟨mv, rw, nx, kn, dn, nI (tW 1 1), ⟨h19_4, h20_4, h21_4, h22_4, hbb_4, hbl_4, hb3_4⟩, hF4, gm, gr, gx, (by first | assumption | exact PM_st hn2 (by assumption) (by assumption) (by assumption)), (by first | assumption | exact Or.inl rfl)⟩⟩
    · refine J_iload_n (pc := 19) dX8_turn_19 rfl rfl ?_
      refine J_bipush (pc := 20) (v := nI 100) dX8_turn_20 (by decide) ?_
      refine J_icmp_le (pc := 22) (tgt := 29) dX8_turn_22 (by decide) (fun ht5 => ?_) (fun hf6 => ?_)
      · refine J_iconst (pc := 29) (v := nI 0) dX8_turn_29 (by decide) ?_
        refine J_callV0 (pc := 30) (M := mX8_turn) (as := [.int (nI 1), .int (nI 0)]) dX8_turn_30 fw_X8_isThrown fl_X8_35 fm_X8_isThrown fe_X8_isThrown h19 (by decide) rfl rfl rfl (c_X8_isThrown hs (d := d - 1) (by omega) (w := w) (n := n) (mv := mv) (rw := rw) (nx := nx) (b := b) (bt := bt) (kn := kn) (en := en) (dn := dn) (rf := rf) (kk := kk) (th := th) ⟨h19, h20, h21, h22, hbb, hbl, hb3⟩ hn1 hn2 gm gr gx 1 0 (by first | assumption | omega) (by first | assumption | omega) (kc := 0) (ks := 0)) (by omega) (st := []) (Nat.le_of_ble_eq_true rfl) rfl (kr_I fun v7 w7 hv7 hw7 => ?_) kx_I
        obtain ⟨hR7, hFc7⟩ := hw7
        obtain ⟨h19_7, h20_7, h21_7, h22_7, hbb_7, hbl_7, hb3_7⟩ := hR7
        have hF7 := hF.tr hFc7
        subst hv7
        show J X mX8_turn d kc ks 33 [some (.ref 19), some (.int a), some (.int c), none] [.int (nI 1)] w7 _
        refine J_if_eqN (pc := 33) (tgt := 38) dX8_turn_33 (by decide) (by decide) (fun h => absurd h (by decide)) (fun _ => ?_)
        refine J_iconst (pc := 36) (v := nI 0) dX8_turn_36 (by decide) ?_
        exact J_iret (pc := 37) dX8_turn_37 rfl ⟨trivial, ⟨mv, rw, nx, kn, dn, nI (tW 1 0), ⟨h19_7, h20_7, h21_7, h22_7, hbb_7, hbl_7, hb3_7⟩, hF7, gm, gr, gx, (by first | assumption | exact PM_st hn2 (by assumption) (by assumption) (by assumption)), (by first | assumption | exact Or.inl rfl)⟩⟩
      · refine J_iconst (pc := 25) (v := nI 1) dX8_turn_25 (by decide) ?_
        refine J_goto (pc := 26) (tgt := 30) dX8_turn_26 (by decide) ?_
        refine J_callV0 (pc := 30) (M := mX8_turn) (as := [.int (nI 1), .int (nI 1)]) dX8_turn_30 fw_X8_isThrown fl_X8_35 fm_X8_isThrown fe_X8_isThrown h19 (by decide) rfl rfl rfl (c_X8_isThrown hs (d := d - 1) (by omega) (w := w) (n := n) (mv := mv) (rw := rw) (nx := nx) (b := b) (bt := bt) (kn := kn) (en := en) (dn := dn) (rf := rf) (kk := kk) (th := th) ⟨h19, h20, h21, h22, hbb, hbl, hb3⟩ hn1 hn2 gm gr gx 1 1 (by first | assumption | omega) (by first | assumption | omega) (kc := 0) (ks := 0)) (by omega) (st := []) (Nat.le_of_ble_eq_true rfl) rfl (kr_I fun v8 w8 hv8 hw8 => ?_) kx_I
        obtain ⟨hR8, hFc8⟩ := hw8
        obtain ⟨h19_8, h20_8, h21_8, h22_8, hbb_8, hbl_8, hb3_8⟩ := hR8
        have hF8 := hF.tr hFc8
        subst hv8
        show J X mX8_turn d kc ks 33 [some (.ref 19), some (.int a), some (.int c), none] [.int (nI 1)] w8 _
        refine J_if_eqN (pc := 33) (tgt := 38) dX8_turn_33 (by decide) (by decide) (fun h => absurd h (by decide)) (fun _ => ?_)
        refine J_iconst (pc := 36) (v := nI 0) dX8_turn_36 (by decide) ?_
        exact J_iret (pc := 37) dX8_turn_37 rfl ⟨trivial, ⟨mv, rw, nx, kn, dn, nI (tW 1 1), ⟨h19_8, h20_8, h21_8, h22_8, hbb_8, hbl_8, hb3_8⟩, hF8, gm, gr, gx, (by first | assumption | exact PM_st hn2 (by assumption) (by assumption) (by assumption)), (by first | assumption | exact Or.inl rfl)⟩⟩
  · refine J_if_neN (pc := 5) (tgt := 12) dX8_turn_5 (by decide) (by decide) (fun _ => ?_) (fun h => absurd h (by decide))
    refine J_iconst (pc := 12) (v := nI 0) dX8_turn_12 (by decide) ?_
    refine J_iload_n (pc := 13) dX8_turn_13 rfl rfl ?_
    refine J_bipush (pc := 14) (v := (-100)) dX8_turn_14 (by decide) ?_
    refine J_icmp_lt (pc := 16) (tgt := 25) dX8_turn_16 (by decide) (fun ht9 => ?_) (fun hf10 => ?_)
    · refine J_iconst (pc := 25) (v := nI 1) dX8_turn_25 (by decide) ?_
      refine J_goto (pc := 26) (tgt := 30) dX8_turn_26 (by decide) ?_
      refine J_callV0 (pc := 30) (M := mX8_turn) (as := [.int (nI 0), .int (nI 1)]) dX8_turn_30 fw_X8_isThrown fl_X8_35 fm_X8_isThrown fe_X8_isThrown h19 (by decide) rfl rfl rfl (c_X8_isThrown hs (d := d - 1) (by omega) (w := w) (n := n) (mv := mv) (rw := rw) (nx := nx) (b := b) (bt := bt) (kn := kn) (en := en) (dn := dn) (rf := rf) (kk := kk) (th := th) ⟨h19, h20, h21, h22, hbb, hbl, hb3⟩ hn1 hn2 gm gr gx 0 1 (by first | assumption | omega) (by first | assumption | omega) (kc := 0) (ks := 0)) (by omega) (st := []) (Nat.le_of_ble_eq_true rfl) rfl (kr_I fun v11 w11 hv11 hw11 => ?_) kx_I
      obtain ⟨hR11, hFc11⟩ := hw11
      obtain ⟨h19_11, h20_11, h21_11, h22_11, hbb_11, hbl_11, hb3_11⟩ := hR11
      have hF11 := hF.tr hFc11
      subst hv11
      show J X mX8_turn d kc ks 33 [some (.ref 19), some (.int (nI q1)), some (.int c), none] [.int (nI 1)] w11 _
      refine J_if_eqN (pc := 33) (tgt := 38) dX8_turn_33 (by decide) (by decide) (fun h => absurd h (by decide)) (fun _ => ?_)
      refine J_iconst (pc := 36) (v := nI 0) dX8_turn_36 (by decide) ?_
      exact J_iret (pc := 37) dX8_turn_37 rfl ⟨trivial, ⟨mv, rw, nx, kn, dn, nI (tW 0 1), ⟨h19_11, h20_11, h21_11, h22_11, hbb_11, hbl_11, hb3_11⟩, hF11, gm, gr, gx, (by first | assumption | exact PM_st hn2 (by assumption) (by assumption) (by assumption)), (by first | assumption | exact Or.inl rfl)⟩⟩
    · refine J_iload_n (pc := 19) dX8_turn_19 rfl rfl ?_
      refine J_bipush (pc := 20) (v := nI 100) dX8_turn_20 (by decide) ?_
      refine J_icmp_le (pc := 22) (tgt := 29) dX8_turn_22 (by decide) (fun ht12 => ?_) (fun hf13 => ?_)
      · refine J_iconst (pc := 29) (v := nI 0) dX8_turn_29 (by decide) ?_
        refine J_callV0 (pc := 30) (M := mX8_turn) (as := [.int (nI 0), .int (nI 0)]) dX8_turn_30 fw_X8_isThrown fl_X8_35 fm_X8_isThrown fe_X8_isThrown h19 (by decide) rfl rfl rfl (c_X8_isThrown hs (d := d - 1) (by omega) (w := w) (n := n) (mv := mv) (rw := rw) (nx := nx) (b := b) (bt := bt) (kn := kn) (en := en) (dn := dn) (rf := rf) (kk := kk) (th := th) ⟨h19, h20, h21, h22, hbb, hbl, hb3⟩ hn1 hn2 gm gr gx 0 0 (by first | assumption | omega) (by first | assumption | omega) (kc := 0) (ks := 0)) (by omega) (st := []) (Nat.le_of_ble_eq_true rfl) rfl (kr_I fun v14 w14 hv14 hw14 => ?_) kx_I
        obtain ⟨hR14, hFc14⟩ := hw14
        obtain ⟨h19_14, h20_14, h21_14, h22_14, hbb_14, hbl_14, hb3_14⟩ := hR14
        have hF14 := hF.tr hFc14
        subst hv14
        show J X mX8_turn d kc ks 33 [some (.ref 19), some (.int (nI q1)), some (.int c), none] [.int (nI 0)] w14 _
        refine J_if_eqN (pc := 33) (tgt := 38) dX8_turn_33 (by decide) (by decide) (fun _ => ?_) (fun h => absurd h (by decide))
        obtain ⟨T, hT⟩ := turn_T hn1 hn2 (Int32.not_lt.mp (by assumption)) (by assumption)
        refine J_iconst (pc := 38) (v := nI 0) dX8_turn_38 (by decide) ?_
        refine J_istore_n (pc := 39) dX8_turn_39 rfl (by decide) rfl ?_
        show J X mX8_turn d kc ks 40 [some (.ref 19), some (.int (nI q1)), some (.int c), some (.int (nI 0))] [] w14 _
        have lp40_15 : ∀ (fuel : Nat) (w16 : List jC) (rw_40 : Nat → Nat) (c3 : Nat), (RM n mv rw_40 nx b bt kn en dn rf kk (nI (tW 0 0)) w16) → (FR b b w w16) → (∀ i, rw_40 i < 7) → (∀ p, p < c3 → rw_40 p = (p + T) % n) → (c3 ≤ n) → (n - c3 < fuel) → J X mX8_turn d kc ks 40 [some (.ref 19), some (.int (nI q1)), some (.int c), some (.int (nI c3))] [] w16 (pI (fun _ => True) (fun w' => ∃ (mv' : Nat → Nat), ∃ (rw' : Nat → Nat), ∃ (nx' : Nat → Nat), ∃ (kn' : Int32), ∃ (dn' : Int32), ∃ (th' : Int32), RM n mv' rw' nx' b bt kn' en dn' rf kk th' w' ∧ FR b b w w' ∧ (∀ i, mv' i < 7) ∧ (∀ i, rw' i < 7) ∧ (∀ i, nx' i < 7) ∧ PM n mv' ∧ KB n kn' bt)) := by
          intro fuellp40_15
          induction fuellp40_15 with
          | zero => intros; omega
          | succ fuellp40_15 ihlp40_15 =>
            intro w16 rw_40 c3 hR17 hF18 gr19 hv40_0 hv40_1 hf20
            obtain ⟨h19_21, h20_21, h21_21, h22_21, hb_21, hbl_21, hb3_21⟩ := hR17
            refine J_iload_n (pc := 40) dX8_turn_40 rfl rfl ?_
            refine J_aload_n (pc := 41) dX8_turn_41 rfl rfl rfl ?_
            refine J_get (pc := 42) (k := 0) dX8_turn_42 kC9 (by decide) ff_X8_7 h19_21 rfl ?_
            refine J_icmp_geN (pc := 45) (tgt := 78) dX8_turn_45 (by decide) (by omega) (by omega) (fun ht22 => ?_) (fun hf23 => ?_)
            · have hPr := Pn_rot (by omega) (r := rw_40) (T := T) (fun p hp => hv40_0 p (by omega))
              refine J_aload_n (pc := 78) dX8_turn_78 rfl rfl rfl ?_
              refine J_iload_n (pc := 79) dX8_turn_79 rfl rfl ?_
              refine J_aload_n (pc := 80) dX8_turn_80 rfl rfl rfl ?_
              refine J_get (pc := 81) (k := 2) dX8_turn_81 kC9 (by decide) ff_X8_17 h19_21 rfl ?_
              refine J_callV0 (pc := 84) (M := mX8_turn) (as := [.int (nI q1), .ref 21]) dX8_turn_84 fw_X8_behind fl_X8_124 fm_X8_behind fe_X8_behind h19_21 (by decide) rfl rfl rfl (c_X8_behind hs (d := d - 1) (by omega) (w := w16) (n := n) (mv := mv) (rw := rw_40) (nx := nx) (b := b) (bt := bt) (kn := kn) (en := en) (dn := dn) (rf := rf) (kk := kk) (th := nI (tW 0 0)) ⟨h19_21, h20_21, h21_21, h22_21, hb_21, hbl_21, hb3_21⟩ hn1 hn2 gm gr19 gx q1 (by first | assumption | omega) (by first | assumption | omega) (by first | assumption | omega) (kc := 0) (ks := 0)) (by omega) (st := []) (Nat.le_of_ble_eq_true rfl) rfl (kr_I fun v24 w24 hv24 hw24 => ?_) kx_I
              obtain ⟨mv24, nx24, hR24, hFc24, hgmv24, hgnx24, hp24_0⟩ := hw24
              obtain ⟨h19_24, h20_24, h21_24, h22_24, hbb_24, hbl_24, hb3_24⟩ := hR24
              have hF24 := hF18.tr hFc24
              exact J_iret (pc := 87) dX8_turn_87 rfl ⟨trivial, ⟨mv24, rw_40, nx24, (-1), (dn + nI 1), nI (tW 0 0), ⟨h19_24, h20_24, h21_24, h22_24, hbb_24, hbl_24, hb3_24⟩, hF24, hgmv24, gr19, hgnx24, (by first | assumption | exact PM_st hn2 (by assumption) (by assumption) (by assumption)), (by first | assumption | exact Or.inl rfl)⟩⟩
            · refine J_aload_n (pc := 48) dX8_turn_48 rfl rfl rfl ?_
              refine J_get (pc := 49) (k := 2) dX8_turn_49 kC9 (by decide) ff_X8_17 h19_21 rfl ?_
              refine J_iload_n (pc := 52) dX8_turn_52 rfl rfl ?_
              refine J_iload_n (pc := 53) dX8_turn_53 rfl rfl ?_
              refine J_iload_n (pc := 54) dX8_turn_54 rfl rfl ?_
              refine J_iadd (pc := 55) dX8_turn_55 ?_
              refine J_aload_n (pc := 56) dX8_turn_56 rfl rfl rfl ?_
              refine J_get (pc := 57) (k := 0) dX8_turn_57 kC9 (by decide) ff_X8_7 h19_21 rfl ?_
              refine J_irem (pc := 60) dX8_turn_60 (nI_ne0 (by omega) (by omega)) ?_
              refine J_aload_n (pc := 61) dX8_turn_61 rfl rfl rfl ?_
              refine J_get (pc := 62) (k := 0) dX8_turn_62 kC9 (by decide) ff_X8_7 h19_21 rfl ?_
              refine J_iadd (pc := 65) dX8_turn_65 ?_
              refine J_aload_n (pc := 66) dX8_turn_66 rfl rfl rfl ?_
              refine J_get (pc := 67) (k := 0) dX8_turn_67 kC9 (by decide) ff_X8_7 h19_21 rfl ?_
              refine J_irem (pc := 70) dX8_turn_70 (nI_ne0 (by omega) (by omega)) ?_
              rw [hT c3 (by omega)]
              have hm71 := Nat.mod_lt (c3 + T) (show 0 < n by omega)
              refine J_iastF (pc := 71) dX8_turn_71 h21_21 (by omega) (by decide) (fun w25 hln25 hc25 hne25 => ?_)
              have hg25 : ∀ i, (up rw_40 c3 ((c3 + T) % n)) i < 7 := up_b gr19 (by omega)
              have h19_25 := (hne25 19 (by omega)).trans h19_21
              have h20_25 := (hne25 20 (by omega)).trans h20_21
              have h22_25 := (hne25 22 (by omega)).trans h22_21
              have hb_25 := (hne25 _ (by omega)).trans hb_21
              have hF25 := hF18.st hln25 hne25 (Or.inl (by decide))
              refine J_iincN (pc := 72) (b := 1) dX8_turn_72 rfl (by decide) (by decide) rfl ?_
              show J X mX8_turn d kc ks 75 [some (.ref 19), some (.int (nI q1)), some (.int c), some (.int (nI (c3 + 1)))] [] w25 _
              refine J_goto (pc := 75) (tgt := 40) dX8_turn_75 (by decide) ?_
              exact J_sub (L' := [some (.ref 19), some (.int (nI q1)), some (.int c), some (.int (nI (c3 + 1)))]) ⟨rfl, ⟨rfl, ⟨rfl, ⟨rfl, trivial⟩⟩⟩⟩ (ihlp40_15 w25 (up rw_40 c3 ((c3 + T) % n)) (c3 + 1) ⟨h19_25, h20_25, hc25, h22_25, hb_25, hbl_21, hb3_21⟩ hF25 hg25 (by intro p hp; by_cases e : p = c3; (subst e; exact up_s _ _ _); (rw [up_n e]; exact hv40_0 p (by omega))) (by first | assumption | omega) (by omega))
        exact J_sub (L' := [some (.ref 19), some (.int (nI q1)), some (.int c), some (.int (nI 0))]) ⟨rfl, ⟨rfl, ⟨rfl, ⟨rfl, trivial⟩⟩⟩⟩ (lp40_15 _ w14 rw 0 ⟨h19_14, h20_14, h21_14, h22_14, hbb_14, hbl_14, hb3_14⟩ hF14 gr (by intro p hp; omega) (by first | assumption | omega) (Nat.lt_succ_self _))
      · refine J_iconst (pc := 25) (v := nI 1) dX8_turn_25 (by decide) ?_
        refine J_goto (pc := 26) (tgt := 30) dX8_turn_26 (by decide) ?_
        refine J_callV0 (pc := 30) (M := mX8_turn) (as := [.int (nI 0), .int (nI 1)]) dX8_turn_30 fw_X8_isThrown fl_X8_35 fm_X8_isThrown fe_X8_isThrown h19 (by decide) rfl rfl rfl (c_X8_isThrown hs (d := d - 1) (by omega) (w := w) (n := n) (mv := mv) (rw := rw) (nx := nx) (b := b) (bt := bt) (kn := kn) (en := en) (dn := dn) (rf := rf) (kk := kk) (th := th) ⟨h19, h20, h21, h22, hbb, hbl, hb3⟩ hn1 hn2 gm gr gx 0 1 (by first | assumption | omega) (by first | assumption | omega) (kc := 0) (ks := 0)) (by omega) (st := []) (Nat.le_of_ble_eq_true rfl) rfl (kr_I fun v26 w26 hv26 hw26 => ?_) kx_I
        obtain ⟨hR26, hFc26⟩ := hw26
        obtain ⟨h19_26, h20_26, h21_26, h22_26, hbb_26, hbl_26, hb3_26⟩ := hR26
        have hF26 := hF.tr hFc26
        subst hv26
        show J X mX8_turn d kc ks 33 [some (.ref 19), some (.int (nI q1)), some (.int c), none] [.int (nI 1)] w26 _
        refine J_if_eqN (pc := 33) (tgt := 38) dX8_turn_33 (by decide) (by decide) (fun h => absurd h (by decide)) (fun _ => ?_)
        refine J_iconst (pc := 36) (v := nI 0) dX8_turn_36 (by decide) ?_
        exact J_iret (pc := 37) dX8_turn_37 rfl ⟨trivial, ⟨mv, rw, nx, kn, dn, nI (tW 0 1), ⟨h19_26, h20_26, h21_26, h22_26, hbb_26, hbl_26, hb3_26⟩, hF26, gm, gr, gx, (by first | assumption | exact PM_st hn2 (by assumption) (by assumption) (by assumption)), (by first | assumption | exact Or.inl rfl)⟩⟩
set_option maxRecDepth 100000 in
set_option maxHeartbeats 4000000 in
theorem c_X8_mirror {X : jX} (hs : X.1.stackTraces = false) {d : Nat} (hd : 3 ≤ d) {n : Nat} {mv rw nx : Nat → Nat} {b : Nat} {bt : List Int32} {kn en dn rf kk th : Int32} {w : List jC} (hR : RM n mv rw nx b bt kn en dn rf kk th w) (hn1 : 2 ≤ n) (hn2 : n ≤ 7) (gm : ∀ i, mv i < 7) (gr : ∀ i, rw i < 7) (gx : ∀ i, nx i < 7) (a : Int32) (hy0 : PM n mv) (hy1 : KB n kn bt) {kc ks : Nat} : jMet X mX8_mirror d kc ks [.ref 19, .int a] w (pI (fun _ => True) (fun w' => ∃ (mv' : Nat → Nat), ∃ (rw' : Nat → Nat), ∃ (nx' : Nat → Nat), ∃ (kn' : Int32), ∃ (dn' : Int32), ∃ (th' : Int32), RM n mv' rw' nx' b bt kn' en dn' rf kk th' w' ∧ FR b b w w' ∧ (∀ i, mv' i < 7) ∧ (∀ i, rw' i < 7) ∧ (∀ i, nx' i < 7) ∧ PM n mv' ∧ KB n kn' bt)) := by
  refine jMet_of hs (by decide +kernel) (Nat.le_of_ble_eq_true rfl) (L := [some (.ref 19), some (.int a), none]) rfl ?_
  have hfc := fc_7 hn2
  have hfp := fc_pos n
  obtain ⟨h19, h20, h21, h22, hbb, hbl, hb3⟩ := hR
  have hF : FR b b w w := FR.rf
  refine J_aload_n (pc := 0) dX8_mirror_0 rfl rfl rfl ?_
  refine J_iload_n (pc := 1) dX8_mirror_1 rfl rfl ?_
  refine J_callS0 (pc := 2) (M := mX8_mirror) (as := [.int a]) dX8_mirror_2 fw_X8_isCell fl_X8_108 fs_X8_isCell rfl (c_X8_isCell hs (d := d - 1) (by omega) (w := w) a (kc := 0) (ks := 0)) (by omega) (st := [.ref 19]) (Nat.le_of_ble_eq_true rfl) rfl (kr_P fun v1 hv1 => ?_) kx_I
  rcases hv1 with ⟨rfl, hk1_0⟩ | ⟨q1, rfl, hk1_0, rfl⟩
  · refine J_if_neN (pc := 5) (tgt := 12) dX8_mirror_5 (by decide) (by decide) (fun h => absurd h (by decide)) (fun _ => ?_)
    refine J_iconst (pc := 8) (v := nI 1) dX8_mirror_8 (by decide) ?_
    refine J_goto (pc := 9) (tgt := 13) dX8_mirror_9 (by decide) ?_
    refine J_callV0 (pc := 13) (M := mX8_mirror) (as := [.int (nI 1)]) dX8_mirror_13 fw_X8_isThrown_ fl_X8_105 fm_X8_isThrown_ fe_X8_isThrown_ h19 (by decide) rfl rfl rfl (c_X8_isThrown_ hs (d := d - 1) (by omega) (w := w) (n := n) (mv := mv) (rw := rw) (nx := nx) (b := b) (bt := bt) (kn := kn) (en := en) (dn := dn) (rf := rf) (kk := kk) (th := th) ⟨h19, h20, h21, h22, hbb, hbl, hb3⟩ hn1 hn2 gm gr gx 1 (by first | assumption | omega) (kc := 0) (ks := 0)) (by omega) (st := []) (Nat.le_of_ble_eq_true rfl) rfl (kr_I fun v2 w2 hv2 hw2 => ?_) kx_I
    obtain ⟨hR2, hFc2⟩ := hw2
    obtain ⟨h19_2, h20_2, h21_2, h22_2, hbb_2, hbl_2, hb3_2⟩ := hR2
    have hF2 := hF.tr hFc2
    subst hv2
    show J X mX8_mirror d kc ks 16 [some (.ref 19), some (.int a), none] [.int (nI 1)] w2 _
    refine J_if_eqN (pc := 16) (tgt := 21) dX8_mirror_16 (by decide) (by decide) (fun h => absurd h (by decide)) (fun _ => ?_)
    refine J_iconst (pc := 19) (v := nI 0) dX8_mirror_19 (by decide) ?_
    exact J_iret (pc := 20) dX8_mirror_20 rfl ⟨trivial, ⟨mv, rw, nx, kn, dn, nI (tW 1 0), ⟨h19_2, h20_2, h21_2, h22_2, hbb_2, hbl_2, hb3_2⟩, hF2, gm, gr, gx, (by first | assumption | exact PM_st hn2 (by assumption) (by assumption) (by assumption)), (by first | assumption | exact Or.inl rfl)⟩⟩
  · refine J_if_neN (pc := 5) (tgt := 12) dX8_mirror_5 (by decide) (by decide) (fun _ => ?_) (fun h => absurd h (by decide))
    refine J_iconst (pc := 12) (v := nI 0) dX8_mirror_12 (by decide) ?_
    refine J_callV0 (pc := 13) (M := mX8_mirror) (as := [.int (nI 0)]) dX8_mirror_13 fw_X8_isThrown_ fl_X8_105 fm_X8_isThrown_ fe_X8_isThrown_ h19 (by decide) rfl rfl rfl (c_X8_isThrown_ hs (d := d - 1) (by omega) (w := w) (n := n) (mv := mv) (rw := rw) (nx := nx) (b := b) (bt := bt) (kn := kn) (en := en) (dn := dn) (rf := rf) (kk := kk) (th := th) ⟨h19, h20, h21, h22, hbb, hbl, hb3⟩ hn1 hn2 gm gr gx 0 (by first | assumption | omega) (kc := 0) (ks := 0)) (by omega) (st := []) (Nat.le_of_ble_eq_true rfl) rfl (kr_I fun v3 w3 hv3 hw3 => ?_) kx_I
    obtain ⟨hR3, hFc3⟩ := hw3
    obtain ⟨h19_3, h20_3, h21_3, h22_3, hbb_3, hbl_3, hb3_3⟩ := hR3
    have hF3 := hF.tr hFc3
    subst hv3
    show J X mX8_mirror d kc ks 16 [some (.ref 19), some (.int (nI q1)), none] [.int (nI 0)] w3 _
    refine J_if_eqN (pc := 16) (tgt := 21) dX8_mirror_16 (by decide) (by decide) (fun _ => ?_) (fun h => absurd h (by decide))
    refine J_iconst (pc := 21) (v := nI 0) dX8_mirror_21 (by decide) ?_
    refine J_istore_n (pc := 22) dX8_mirror_22 rfl (by decide) rfl ?_
    show J X mX8_mirror d kc ks 23 [some (.ref 19), some (.int (nI q1)), some (.int (nI 0))] [] w3 _
    have lp23_4 : ∀ (fuel : Nat) (w5 : List jC) (rw_23 : Nat → Nat) (c2 : Nat), (RM n mv rw_23 nx b bt kn en dn rf kk (nI (tW 0 0)) w5) → (FR b b w w5) → (∀ i, rw_23 i < 7) → (∀ p, p < c2 → rw_23 p = n - 1 - p) → (c2 ≤ n) → (n - c2 < fuel) → J X mX8_mirror d kc ks 23 [some (.ref 19), some (.int (nI q1)), some (.int (nI c2))] [] w5 (pI (fun _ => True) (fun w' => ∃ (mv' : Nat → Nat), ∃ (rw' : Nat → Nat), ∃ (nx' : Nat → Nat), ∃ (kn' : Int32), ∃ (dn' : Int32), ∃ (th' : Int32), RM n mv' rw' nx' b bt kn' en dn' rf kk th' w' ∧ FR b b w w' ∧ (∀ i, mv' i < 7) ∧ (∀ i, rw' i < 7) ∧ (∀ i, nx' i < 7) ∧ PM n mv' ∧ KB n kn' bt)) := by
      intro fuellp23_4
      induction fuellp23_4 with
      | zero => intros; omega
      | succ fuellp23_4 ihlp23_4 =>
        intro w5 rw_23 c2 hR6 hF7 gr8 hv23_0 hv23_1 hf9
        obtain ⟨h19_10, h20_10, h21_10, h22_10, hb_10, hbl_10, hb3_10⟩ := hR6
        refine J_iload_n (pc := 23) dX8_mirror_23 rfl rfl ?_
        refine J_aload_n (pc := 24) dX8_mirror_24 rfl rfl rfl ?_
        refine J_get (pc := 25) (k := 0) dX8_mirror_25 kC9 (by decide) ff_X8_7 h19_10 rfl ?_
        refine J_icmp_geN (pc := 28) (tgt := 51) dX8_mirror_28 (by decide) (by omega) (by omega) (fun ht11 => ?_) (fun hf12 => ?_)
        · have hPr := Pn_rev (r := rw_23) (fun p hp => hv23_0 p (by omega))
          refine J_aload_n (pc := 51) dX8_mirror_51 rfl rfl rfl ?_
          refine J_iload_n (pc := 52) dX8_mirror_52 rfl rfl ?_
          refine J_aload_n (pc := 53) dX8_mirror_53 rfl rfl rfl ?_
          refine J_get (pc := 54) (k := 2) dX8_mirror_54 kC9 (by decide) ff_X8_17 h19_10 rfl ?_
          refine J_callV0 (pc := 57) (M := mX8_mirror) (as := [.int (nI q1), .ref 21]) dX8_mirror_57 fw_X8_behind fl_X8_124 fm_X8_behind fe_X8_behind h19_10 (by decide) rfl rfl rfl (c_X8_behind hs (d := d - 1) (by omega) (w := w5) (n := n) (mv := mv) (rw := rw_23) (nx := nx) (b := b) (bt := bt) (kn := kn) (en := en) (dn := dn) (rf := rf) (kk := kk) (th := nI (tW 0 0)) ⟨h19_10, h20_10, h21_10, h22_10, hb_10, hbl_10, hb3_10⟩ hn1 hn2 gm gr8 gx q1 (by first | assumption | omega) (by first | assumption | omega) (by first | assumption | omega) (kc := 0) (ks := 0)) (by omega) (st := []) (Nat.le_of_ble_eq_true rfl) rfl (kr_I fun v13 w13 hv13 hw13 => ?_) kx_I
          obtain ⟨mv13, nx13, hR13, hFc13, hgmv13, hgnx13, hp13_0⟩ := hw13
          obtain ⟨h19_13, h20_13, h21_13, h22_13, hbb_13, hbl_13, hb3_13⟩ := hR13
          have hF13 := hF7.tr hFc13
          exact J_iret (pc := 60) dX8_mirror_60 rfl ⟨trivial, ⟨mv13, rw_23, nx13, (-1), (dn + nI 1), nI (tW 0 0), ⟨h19_13, h20_13, h21_13, h22_13, hbb_13, hbl_13, hb3_13⟩, hF13, hgmv13, gr8, hgnx13, (by first | assumption | exact PM_st hn2 (by assumption) (by assumption) (by assumption)), (by first | assumption | exact Or.inl rfl)⟩⟩
        · refine J_aload_n (pc := 31) dX8_mirror_31 rfl rfl rfl ?_
          refine J_get (pc := 32) (k := 2) dX8_mirror_32 kC9 (by decide) ff_X8_17 h19_10 rfl ?_
          refine J_iload_n (pc := 35) dX8_mirror_35 rfl rfl ?_
          refine J_aload_n (pc := 36) dX8_mirror_36 rfl rfl rfl ?_
          refine J_get (pc := 37) (k := 0) dX8_mirror_37 kC9 (by decide) ff_X8_7 h19_10 rfl ?_
          refine J_iconst (pc := 40) (v := nI 1) dX8_mirror_40 (by decide) ?_
          refine J_isubN (pc := 41) dX8_mirror_41 (by omega) ?_
          refine J_iload_n (pc := 42) dX8_mirror_42 rfl rfl ?_
          refine J_isubN (pc := 43) dX8_mirror_43 (by omega) ?_
          refine J_iastF (pc := 44) dX8_mirror_44 h21_10 (by omega) (by decide) (fun w14 hln14 hc14 hne14 => ?_)
          have hg14 : ∀ i, (up rw_23 c2 ((n - 1) - c2)) i < 7 := up_b gr8 (by omega)
          have h19_14 := (hne14 19 (by omega)).trans h19_10
          have h20_14 := (hne14 20 (by omega)).trans h20_10
          have h22_14 := (hne14 22 (by omega)).trans h22_10
          have hb_14 := (hne14 _ (by omega)).trans hb_10
          have hF14 := hF7.st hln14 hne14 (Or.inl (by decide))
          refine J_iincN (pc := 45) (b := 1) dX8_mirror_45 rfl (by decide) (by decide) rfl ?_
          show J X mX8_mirror d kc ks 48 [some (.ref 19), some (.int (nI q1)), some (.int (nI (c2 + 1)))] [] w14 _
          refine J_goto (pc := 48) (tgt := 23) dX8_mirror_48 (by decide) ?_
          exact J_sub (L' := [some (.ref 19), some (.int (nI q1)), some (.int (nI (c2 + 1)))]) ⟨rfl, ⟨rfl, ⟨rfl, trivial⟩⟩⟩ (ihlp23_4 w14 (up rw_23 c2 ((n - 1) - c2)) (c2 + 1) ⟨h19_14, h20_14, hc14, h22_14, hb_14, hbl_10, hb3_10⟩ hF14 hg14 (by intro p hp; by_cases e : p = c2; (subst e; exact up_s _ _ _); (rw [up_n e]; exact hv23_0 p (by omega))) (by first | assumption | omega) (by omega))
    exact J_sub (L' := [some (.ref 19), some (.int (nI q1)), some (.int (nI 0))]) ⟨rfl, ⟨rfl, ⟨rfl, trivial⟩⟩⟩ (lp23_4 _ w3 rw 0 ⟨h19_3, h20_3, h21_3, h22_3, hbb_3, hbl_3, hb3_3⟩ hF3 gr (by intro p hp; omega) (by first | assumption | omega) (Nat.lt_succ_self _))
set_option maxRecDepth 100000 in
set_option maxHeartbeats 4000000 in
theorem c_X8_areUnlike {X : jX} (hs : X.1.stackTraces = false) {d : Nat} (hd : 1 ≤ d) {n : Nat} {mv rw nx : Nat → Nat} {b : Nat} {bt : List Int32} {kn en dn rf kk th : Int32} {w : List jC} (hR : RM n mv rw nx b bt kn en dn rf kk th w) (hn1 : 2 ≤ n) (hn2 : n ≤ 7) (gm : ∀ i, mv i < 7) (gr : ∀ i, rw i < 7) (gx : ∀ i, nx i < 7) (a : Nat) (c : Nat) (hy0 : a < 6) (hy1 : c < 6) {kc ks : Nat} : jMet X mX8_areUnlike d kc ks [.ref 19, .int (nI a), .int (nI c)] w (pI (fun v => ∃ k : Nat, v = nI k ∧ k < 2) (fun w' => w' = w)) := by
  refine jMet_of hs (by decide +kernel) (Nat.le_of_ble_eq_true rfl) (L := [some (.ref 19), some (.int (nI a)), some (.int (nI c)), none]) rfl ?_
  have hfc := fc_7 hn2
  have hfp := fc_pos n
  obtain ⟨h19, h20, h21, h22, hbb, hbl, hb3⟩ := hR
  have hF : FR b b w w := FR.rf
  refine J_iconst (pc := 0) (v := nI 0) dX8_areUnlike_0 (by decide) ?_
  refine J_istore_n (pc := 1) dX8_areUnlike_1 rfl (by decide) rfl ?_
  show J X mX8_areUnlike d kc ks 2 [some (.ref 19), some (.int (nI a)), some (.int (nI c)), some (.int (nI 0))] [] w _
  have lp2_1 : ∀ (fuel : Nat) (c3 : Nat), (c3 ≤ n) → (n - c3 < fuel) → J X mX8_areUnlike d kc ks 2 [some (.ref 19), some (.int (nI a)), some (.int (nI c)), some (.int (nI c3))] [] w (pI (fun v => ∃ k : Nat, v = nI k ∧ k < 2) (fun w' => w' = w)) := by
    intro fuellp2_1
    induction fuellp2_1 with
    | zero => intros; omega
    | succ fuellp2_1 ihlp2_1 =>
      intro c3 hv2_0 hf2
      refine J_iload_n (pc := 2) dX8_areUnlike_2 rfl rfl ?_
      refine J_aload_n (pc := 3) dX8_areUnlike_3 rfl rfl rfl ?_
      refine J_get (pc := 4) (k := 0) dX8_areUnlike_4 kC9 (by decide) ff_X8_7 h19 rfl ?_
      refine J_icmp_geN (pc := 7) (tgt := 33) dX8_areUnlike_7 (by decide) (by omega) (by omega) (fun ht3 => ?_) (fun hf4 => ?_)
      · refine J_iconst (pc := 33) (v := nI 0) dX8_areUnlike_33 (by decide) ?_
        exact J_zret (pc := 34) dX8_areUnlike_34 rfl (nar_b (by first | decide | omega)) ⟨⟨0, rfl, by omega⟩, rfl⟩
      · refine J_aload_n (pc := 10) dX8_areUnlike_10 rfl rfl rfl ?_
        refine J_iload_n (pc := 11) dX8_areUnlike_11 rfl rfl ?_
        refine J_iload_n (pc := 12) dX8_areUnlike_12 rfl rfl ?_
        refine J_callV0 (pc := 13) (M := mX8_areUnlike) (as := [.int (nI a), .int (nI c3)]) dX8_areUnlike_13 fw_X8_at fl_X8_82 fm_X8_at fe_X8_at h19 (by decide) rfl rfl rfl (c_X8_at hs (d := d - 1) (by omega) (w := w) (n := n) (mv := mv) (rw := rw) (nx := nx) (b := b) (bt := bt) (kn := kn) (en := en) (dn := dn) (rf := rf) (kk := kk) (th := th) ⟨h19, h20, h21, h22, hbb, hbl, hb3⟩ hn1 hn2 gm gr gx a c3 (by first | assumption | omega) (by first | assumption | omega) (kc := 0) (ks := 0)) (by omega) (st := []) (Nat.le_of_ble_eq_true rfl) rfl (kr_P fun v5 hv5 => ?_) kx_I
        subst hv5
        have hq6 := gm (a * 7 + c3)
        refine J_aload_n (pc := 16) dX8_areUnlike_16 rfl rfl rfl ?_
        refine J_iload_n (pc := 17) dX8_areUnlike_17 rfl rfl ?_
        refine J_iload_n (pc := 18) dX8_areUnlike_18 rfl rfl ?_
        refine J_callV0 (pc := 19) (M := mX8_areUnlike) (as := [.int (nI c), .int (nI c3)]) dX8_areUnlike_19 fw_X8_at fl_X8_82 fm_X8_at fe_X8_at h19 (by decide) rfl rfl rfl (c_X8_at hs (d := d - 1) (by omega) (w := w) (n := n) (mv := mv) (rw := rw) (nx := nx) (b := b) (bt := bt) (kn := kn) (en := en) (dn := dn) (rf := rf) (kk := kk) (th := th) ⟨h19, h20, h21, h22, hbb, hbl, hb3⟩ hn1 hn2 gm gr gx c c3 (by first | assumption | omega) (by first | assumption | omega) (kc := 0) (ks := 0)) (by omega) (st := [.int (nI (mv (a * 7 + c3)))]) (Nat.le_of_ble_eq_true rfl) rfl (kr_P fun v7 hv7 => ?_) kx_I
        subst hv7
        have hq8 := gm (c * 7 + c3)
        refine J_icmp_eqN (pc := 22) (tgt := 27) dX8_areUnlike_22 (by decide) (by omega) (by omega) (fun ht9 => ?_) (fun hf10 => ?_)
        · refine J_iincN (pc := 27) (b := 1) dX8_areUnlike_27 rfl (by decide) (by decide) rfl ?_
          show J X mX8_areUnlike d kc ks 30 [some (.ref 19), some (.int (nI a)), some (.int (nI c)), some (.int (nI (c3 + 1)))] [] w _
          refine J_goto (pc := 30) (tgt := 2) dX8_areUnlike_30 (by decide) ?_
          exact J_sub (L' := [some (.ref 19), some (.int (nI a)), some (.int (nI c)), some (.int (nI (c3 + 1)))]) ⟨rfl, ⟨rfl, ⟨rfl, ⟨rfl, trivial⟩⟩⟩⟩ (ihlp2_1 (c3 + 1) (by first | assumption | omega) (by omega))
        · refine J_iconst (pc := 25) (v := nI 1) dX8_areUnlike_25 (by decide) ?_
          exact J_zret (pc := 26) dX8_areUnlike_26 rfl (nar_b (by first | decide | omega)) ⟨⟨1, rfl, by omega⟩, rfl⟩
  exact J_sub (L' := [some (.ref 19), some (.int (nI a)), some (.int (nI c)), some (.int (nI 0))]) ⟨rfl, ⟨rfl, ⟨rfl, ⟨rfl, trivial⟩⟩⟩⟩ (lp2_1 _ 0 (by first | assumption | omega) (Nat.lt_succ_self _))
set_option maxRecDepth 100000 in
set_option maxHeartbeats 4000000 in
theorem c_X8_copy {X : jX} (hs : X.1.stackTraces = false) {d : Nat} (hd : 2 ≤ d) {n : Nat} {mv rw nx : Nat → Nat} {b : Nat} {bt : List Int32} {kn en dn rf kk th : Int32} {w : List jC} (hR : RM n mv rw nx b bt kn en dn rf kk th w) (hn1 : 2 ≤ n) (hn2 : n ≤ 7) (gm : ∀ i, mv i < 7) (gr : ∀ i, rw i < 7) (gx : ∀ i, nx i < 7) (a : Int32) (c : Int32) (hy0 : PM n mv) (hy1 : KB n kn bt) {kc ks : Nat} : jMet X mX8_copy d kc ks [.ref 19, .int a, .int c] w (pI (fun _ => True) (fun w' => ∃ (mv' : Nat → Nat), ∃ (nx' : Nat → Nat), ∃ (kn' : Int32), ∃ (dn' : Int32), ∃ (th' : Int32), RM n mv' rw nx' b bt kn' en dn' rf kk th' w' ∧ FR b b w w' ∧ (∀ i, mv' i < 7) ∧ (∀ i, nx' i < 7) ∧ PM n mv' ∧ KB n kn' bt)) := by
  refine jMet_of hs (by decide +kernel) (Nat.le_of_ble_eq_true rfl) (L := [some (.ref 19), some (.int a), some (.int c), none, none]) rfl ?_
  have hfc := fc_7 hn2
  have hfp := fc_pos n
  obtain ⟨h19, h20, h21, h22, hbb, hbl, hb3⟩ := hR
  have hF : FR b b w w := FR.rf
  refine J_aload_n (pc := 0) dX8_copy_0 rfl rfl rfl ?_
  refine J_iload_n (pc := 1) dX8_copy_1 rfl rfl ?_
  refine J_callS0 (pc := 2) (M := mX8_copy) (as := [.int a]) dX8_copy_2 fw_X8_isCell fl_X8_108 fs_X8_isCell rfl (c_X8_isCell hs (d := d - 1) (by omega) (w := w) a (kc := 0) (ks := 0)) (by omega) (st := [.ref 19]) (Nat.le_of_ble_eq_true rfl) rfl (kr_P fun v1 hv1 => ?_) kx_I
  rcases hv1 with ⟨rfl, hk1_0⟩ | ⟨q1, rfl, hk1_0, rfl⟩
  · refine J_if_eqN (pc := 5) (tgt := 15) dX8_copy_5 (by decide) (by decide) (fun _ => ?_) (fun h => absurd h (by decide))
    refine J_iconst (pc := 15) (v := nI 1) dX8_copy_15 (by decide) ?_
    refine J_goto (pc := 16) (tgt := 20) dX8_copy_16 (by decide) ?_
    refine J_callV0 (pc := 20) (M := mX8_copy) (as := [.int (nI 1)]) dX8_copy_20 fw_X8_isThrown_ fl_X8_105 fm_X8_isThrown_ fe_X8_isThrown_ h19 (by decide) rfl rfl rfl (c_X8_isThrown_ hs (d := d - 1) (by omega) (w := w) (n := n) (mv := mv) (rw := rw) (nx := nx) (b := b) (bt := bt) (kn := kn) (en := en) (dn := dn) (rf := rf) (kk := kk) (th := th) ⟨h19, h20, h21, h22, hbb, hbl, hb3⟩ hn1 hn2 gm gr gx 1 (by first | assumption | omega) (kc := 0) (ks := 0)) (by omega) (st := []) (Nat.le_of_ble_eq_true rfl) rfl (kr_I fun v2 w2 hv2 hw2 => ?_) kx_I
    obtain ⟨hR2, hFc2⟩ := hw2
    obtain ⟨h19_2, h20_2, h21_2, h22_2, hbb_2, hbl_2, hb3_2⟩ := hR2
    have hF2 := hF.tr hFc2
    subst hv2
    show J X mX8_copy d kc ks 23 [some (.ref 19), some (.int a), some (.int c), none, none] [.int (nI 1)] w2 _
    refine J_if_eqN (pc := 23) (tgt := 28) dX8_copy_23 (by decide) (by decide) (fun h => absurd h (by decide)) (fun _ => ?_)
    refine J_iconst (pc := 26) (v := nI 0) dX8_copy_26 (by decide) ?_
    exact J_iret (pc := 27) dX8_copy_27 rfl ⟨trivial, ⟨mv, nx, kn, dn, nI (tW 1 0), ⟨h19_2, h20_2, h21_2, h22_2, hbb_2, hbl_2, hb3_2⟩, hF2, gm, gx, (by first | assumption | exact PM_st hn2 (by assumption) (by assumption) (by assumption)), (by first | assumption | exact Or.inl rfl)⟩⟩
  · refine J_if_eqN (pc := 5) (tgt := 15) dX8_copy_5 (by decide) (by decide) (fun h => absurd h (by decide)) (fun _ => ?_)
    refine J_iload_n (pc := 8) dX8_copy_8 rfl rfl ?_
    refine J_callS0 (pc := 9) (M := mX8_copy) (as := [.int c]) dX8_copy_9 fw_X8_isCell fl_X8_108 fs_X8_isCell rfl (c_X8_isCell hs (d := d - 1) (by omega) (w := w) c (kc := 0) (ks := 0)) (by omega) (st := [.ref 19]) (Nat.le_of_ble_eq_true rfl) rfl (kr_P fun v3 hv3 => ?_) kx_I
    rcases hv3 with ⟨rfl, hk3_0⟩ | ⟨q3, rfl, hk3_0, rfl⟩
    · refine J_if_neN (pc := 12) (tgt := 19) dX8_copy_12 (by decide) (by decide) (fun h => absurd h (by decide)) (fun _ => ?_)
      refine J_iconst (pc := 15) (v := nI 1) dX8_copy_15 (by decide) ?_
      refine J_goto (pc := 16) (tgt := 20) dX8_copy_16 (by decide) ?_
      refine J_callV0 (pc := 20) (M := mX8_copy) (as := [.int (nI 1)]) dX8_copy_20 fw_X8_isThrown_ fl_X8_105 fm_X8_isThrown_ fe_X8_isThrown_ h19 (by decide) rfl rfl rfl (c_X8_isThrown_ hs (d := d - 1) (by omega) (w := w) (n := n) (mv := mv) (rw := rw) (nx := nx) (b := b) (bt := bt) (kn := kn) (en := en) (dn := dn) (rf := rf) (kk := kk) (th := th) ⟨h19, h20, h21, h22, hbb, hbl, hb3⟩ hn1 hn2 gm gr gx 1 (by first | assumption | omega) (kc := 0) (ks := 0)) (by omega) (st := []) (Nat.le_of_ble_eq_true rfl) rfl (kr_I fun v4 w4 hv4 hw4 => ?_) kx_I
      obtain ⟨hR4, hFc4⟩ := hw4
      obtain ⟨h19_4, h20_4, h21_4, h22_4, hbb_4, hbl_4, hb3_4⟩ := hR4
      have hF4 := hF.tr hFc4
      subst hv4
      show J X mX8_copy d kc ks 23 [some (.ref 19), some (.int (nI q1)), some (.int c), none, none] [.int (nI 1)] w4 _
      refine J_if_eqN (pc := 23) (tgt := 28) dX8_copy_23 (by decide) (by decide) (fun h => absurd h (by decide)) (fun _ => ?_)
      refine J_iconst (pc := 26) (v := nI 0) dX8_copy_26 (by decide) ?_
      exact J_iret (pc := 27) dX8_copy_27 rfl ⟨trivial, ⟨mv, nx, kn, dn, nI (tW 1 0), ⟨h19_4, h20_4, h21_4, h22_4, hbb_4, hbl_4, hb3_4⟩, hF4, gm, gx, (by first | assumption | exact PM_st hn2 (by assumption) (by assumption) (by assumption)), (by first | assumption | exact Or.inl rfl)⟩⟩
    · refine J_if_neN (pc := 12) (tgt := 19) dX8_copy_12 (by decide) (by decide) (fun _ => ?_) (fun h => absurd h (by decide))
      refine J_iconst (pc := 19) (v := nI 0) dX8_copy_19 (by decide) ?_
      refine J_callV0 (pc := 20) (M := mX8_copy) (as := [.int (nI 0)]) dX8_copy_20 fw_X8_isThrown_ fl_X8_105 fm_X8_isThrown_ fe_X8_isThrown_ h19 (by decide) rfl rfl rfl (c_X8_isThrown_ hs (d := d - 1) (by omega) (w := w) (n := n) (mv := mv) (rw := rw) (nx := nx) (b := b) (bt := bt) (kn := kn) (en := en) (dn := dn) (rf := rf) (kk := kk) (th := th) ⟨h19, h20, h21, h22, hbb, hbl, hb3⟩ hn1 hn2 gm gr gx 0 (by first | assumption | omega) (kc := 0) (ks := 0)) (by omega) (st := []) (Nat.le_of_ble_eq_true rfl) rfl (kr_I fun v5 w5 hv5 hw5 => ?_) kx_I
      obtain ⟨hR5, hFc5⟩ := hw5
      obtain ⟨h19_5, h20_5, h21_5, h22_5, hbb_5, hbl_5, hb3_5⟩ := hR5
      have hF5 := hF.tr hFc5
      subst hv5
      show J X mX8_copy d kc ks 23 [some (.ref 19), some (.int (nI q1)), some (.int (nI q3)), none, none] [.int (nI 0)] w5 _
      refine J_if_eqN (pc := 23) (tgt := 28) dX8_copy_23 (by decide) (by decide) (fun _ => ?_) (fun h => absurd h (by decide))
      refine J_aload_n (pc := 28) dX8_copy_28 rfl rfl rfl ?_
      refine J_iload_n (pc := 29) dX8_copy_29 rfl rfl ?_
      refine J_iload_n (pc := 30) dX8_copy_30 rfl rfl ?_
      refine J_callV0 (pc := 31) (M := mX8_copy) (as := [.int (nI q1), .int (nI q3)]) dX8_copy_31 fw_X8_areUnlike fl_X8_127 fm_X8_areUnlike fe_X8_areUnlike h19_5 (by decide) rfl rfl rfl (c_X8_areUnlike hs (d := d - 1) (by omega) (w := w5) (n := n) (mv := mv) (rw := rw) (nx := nx) (b := b) (bt := bt) (kn := kn) (en := en) (dn := dn) (rf := rf) (kk := kk) (th := nI (tW 0 0)) ⟨h19_5, h20_5, h21_5, h22_5, hbb_5, hbl_5, hb3_5⟩ hn1 hn2 gm gr gx q1 q3 (by first | assumption | omega) (by first | assumption | omega) (kc := 0) (ks := 0)) (by omega) (st := []) (Nat.le_of_ble_eq_true rfl) rfl (kr_P fun v6 hv6 => ?_) kx_I
      obtain ⟨k6, rfl, hk6⟩ := hv6
      refine J_istore_n (pc := 34) dX8_copy_34 rfl (by decide) rfl ?_
      show J X mX8_copy d kc ks 35 [some (.ref 19), some (.int (nI q1)), some (.int (nI q3)), some (.int (nI k6)), none] [] w5 _
      refine J_iconst (pc := 35) (v := nI 0) dX8_copy_35 (by decide) ?_
      refine J_istore (pc := 36) dX8_copy_36 (by decide) rfl ?_
      show J X mX8_copy d kc ks 38 [some (.ref 19), some (.int (nI q1)), some (.int (nI q3)), some (.int (nI k6)), some (.int (nI 0))] [] w5 _
      have lp38_7 : ∀ (fuel : Nat) (w8 : List jC) (nx_38 : Nat → Nat) (c4 : Nat), (RM n mv rw nx_38 b bt kn en dn rf kk (nI (tW 0 0)) w8) → (FR b b w w8) → (∀ i, nx_38 i < 7) → (∀ p, p < c4 → nx_38 p = mv (q1 * 7 + p)) → (c4 ≤ n) → (n - c4 < fuel) → J X mX8_copy d kc ks 38 [some (.ref 19), some (.int (nI q1)), some (.int (nI q3)), some (.int (nI k6)), some (.int (nI c4))] [] w8 (pI (fun _ => True) (fun w' => ∃ (mv' : Nat → Nat), ∃ (nx' : Nat → Nat), ∃ (kn' : Int32), ∃ (dn' : Int32), ∃ (th' : Int32), RM n mv' rw nx' b bt kn' en dn' rf kk th' w' ∧ FR b b w w' ∧ (∀ i, mv' i < 7) ∧ (∀ i, nx' i < 7) ∧ PM n mv' ∧ KB n kn' bt)) := by
        intro fuellp38_7
        induction fuellp38_7 with
        | zero => intros; omega
        | succ fuellp38_7 ihlp38_7 =>
          intro w8 nx_38 c4 hR9 hF10 gx11 hv38_0 hv38_1 hf12
          obtain ⟨h19_13, h20_13, h21_13, h22_13, hb_13, hbl_13, hb3_13⟩ := hR9
          refine J_iload (pc := 38) dX8_copy_38 rfl ?_
          refine J_aload_n (pc := 40) dX8_copy_40 rfl rfl rfl ?_
          refine J_get (pc := 41) (k := 0) dX8_copy_41 kC9 (by decide) ff_X8_7 h19_13 rfl ?_
          refine J_icmp_geN (pc := 44) (tgt := 67) dX8_copy_44 (by decide) (by omega) (by omega) (fun ht14 => ?_) (fun hf15 => ?_)
          · have hPx := (hy0 q1 (by omega)).congr (g := nx_38) (fun p hp => hv38_0 p (by omega))
            refine J_aload_n (pc := 67) dX8_copy_67 rfl rfl rfl ?_
            refine J_iload_n (pc := 68) dX8_copy_68 rfl rfl ?_
            refine J_aload_n (pc := 69) dX8_copy_69 rfl rfl rfl ?_
            refine J_get (pc := 70) (k := 3) dX8_copy_70 kC9 (by decide) ff_X8_20 h19_13 rfl ?_
            refine J_callV0 (pc := 73) (M := mX8_copy) (as := [.int (nI q3), .ref 22]) dX8_copy_73 fw_X8_get fl_X8_111 fm_X8_get fe_X8_get h19_13 (by decide) rfl rfl rfl (c_X8_get_at22 hs (d := d - 1) (by omega) (w := w8) (n := n) (mv := mv) (rw := rw) (nx := nx_38) (b := b) (bt := bt) (kn := kn) (en := en) (dn := dn) (rf := rf) (kk := kk) (th := nI (tW 0 0)) ⟨h19_13, h20_13, h21_13, h22_13, hb_13, hbl_13, hb3_13⟩ hn1 hn2 gm gr gx11 q3 (by first | assumption | omega) (kc := 0) (ks := 0)) (by omega) (st := []) (Nat.le_of_ble_eq_true rfl) rfl (kr_I fun v16 w16 hv16 hw16 => ?_) kx_I
            obtain ⟨mv16, hR16, hFc16, hgmv16, hp16_0⟩ := hw16
            obtain ⟨h19_16, h20_16, h21_16, h22_16, hbb_16, hbl_16, hb3_16⟩ := hR16
            have hF16 := hF10.tr hFc16
            subst hv16
            refine J_pop (pc := 76) dX8_copy_76 rfl ?_
            refine J_iload_n (pc := 77) dX8_copy_77 rfl rfl ?_
            refine J_if_eqN (pc := 78) (tgt := 85) dX8_copy_78 (by decide) (by omega) (fun ht17 => ?_) (fun hf18 => ?_)
            · refine J_iconst (pc := 85) (v := nI 0) dX8_copy_85 (by decide) ?_
              exact J_iret (pc := 86) dX8_copy_86 rfl ⟨trivial, ⟨mv16, nx_38, (-1), (dn + nI 1), nI (tW 0 0), ⟨h19_16, h20_16, h21_16, h22_16, hbb_16, hbl_16, hb3_16⟩, hF16, hgmv16, gx11, (by first | assumption | exact PM_st hn2 (by assumption) (by assumption) (by assumption)), (by first | assumption | exact Or.inl rfl)⟩⟩
            · refine J_iconst (pc := 81) (v := nI 1) dX8_copy_81 (by decide) ?_
              refine J_goto (pc := 82) (tgt := 86) dX8_copy_82 (by decide) ?_
              exact J_iret (pc := 86) dX8_copy_86 rfl ⟨trivial, ⟨mv16, nx_38, (-1), (dn + nI 1), nI (tW 0 0), ⟨h19_16, h20_16, h21_16, h22_16, hbb_16, hbl_16, hb3_16⟩, hF16, hgmv16, gx11, (by first | assumption | exact PM_st hn2 (by assumption) (by assumption) (by assumption)), (by first | assumption | exact Or.inl rfl)⟩⟩
          · refine J_aload_n (pc := 47) dX8_copy_47 rfl rfl rfl ?_
            refine J_get (pc := 48) (k := 3) dX8_copy_48 kC9 (by decide) ff_X8_20 h19_13 rfl ?_
            refine J_iload (pc := 51) dX8_copy_51 rfl ?_
            refine J_aload_n (pc := 53) dX8_copy_53 rfl rfl rfl ?_
            refine J_iload_n (pc := 54) dX8_copy_54 rfl rfl ?_
            refine J_iload (pc := 55) dX8_copy_55 rfl ?_
            refine J_callV0 (pc := 57) (M := mX8_copy) (as := [.int (nI q1), .int (nI c4)]) dX8_copy_57 fw_X8_at fl_X8_82 fm_X8_at fe_X8_at h19_13 (by decide) rfl rfl rfl (c_X8_at hs (d := d - 1) (by omega) (w := w8) (n := n) (mv := mv) (rw := rw) (nx := nx_38) (b := b) (bt := bt) (kn := kn) (en := en) (dn := dn) (rf := rf) (kk := kk) (th := nI (tW 0 0)) ⟨h19_13, h20_13, h21_13, h22_13, hb_13, hbl_13, hb3_13⟩ hn1 hn2 gm gr gx11 q1 c4 (by first | assumption | omega) (by first | assumption | omega) (kc := 0) (ks := 0)) (by omega) (st := [.int (nI c4), .ref 22]) (Nat.le_of_ble_eq_true rfl) rfl (kr_P fun v19 hv19 => ?_) kx_I
            subst hv19
            have hq20 := gm (q1 * 7 + c4)
            refine J_iastF (pc := 60) dX8_copy_60 h22_13 (by omega) (by decide) (fun w21 hln21 hc21 hne21 => ?_)
            have hg21 : ∀ i, (up nx_38 c4 (mv (q1 * 7 + c4))) i < 7 := up_b gx11 (by omega)
            have h19_21 := (hne21 19 (by omega)).trans h19_13
            have h20_21 := (hne21 20 (by omega)).trans h20_13
            have h21_21 := (hne21 21 (by omega)).trans h21_13
            have hb_21 := (hne21 _ (by omega)).trans hb_13
            have hF21 := hF10.st hln21 hne21 (Or.inl (by decide))
            refine J_iincN (pc := 61) (b := 1) dX8_copy_61 rfl (by decide) (by decide) rfl ?_
            show J X mX8_copy d kc ks 64 [some (.ref 19), some (.int (nI q1)), some (.int (nI q3)), some (.int (nI k6)), some (.int (nI (c4 + 1)))] [] w21 _
            refine J_goto (pc := 64) (tgt := 38) dX8_copy_64 (by decide) ?_
            exact J_sub (L' := [some (.ref 19), some (.int (nI q1)), some (.int (nI q3)), some (.int (nI k6)), some (.int (nI (c4 + 1)))]) ⟨rfl, ⟨rfl, ⟨rfl, ⟨rfl, ⟨rfl, trivial⟩⟩⟩⟩⟩ (ihlp38_7 w21 (up nx_38 c4 (mv (q1 * 7 + c4))) (c4 + 1) ⟨h19_21, h20_21, h21_21, hc21, hb_21, hbl_13, hb3_13⟩ hF21 hg21 (by intro p hp; by_cases e : p = c4; (subst e; exact up_s _ _ _); (rw [up_n e]; exact hv38_0 p (by omega))) (by first | assumption | omega) (by omega))
      exact J_sub (L' := [some (.ref 19), some (.int (nI q1)), some (.int (nI q3)), some (.int (nI k6)), some (.int (nI 0))]) ⟨rfl, ⟨rfl, ⟨rfl, ⟨rfl, ⟨rfl, trivial⟩⟩⟩⟩⟩ (lp38_7 _ w5 nx 0 ⟨h19_5, h20_5, h21_5, h22_5, hbb_5, hbl_5, hb3_5⟩ hF5 gx (by intro p hp; omega) (by first | assumption | omega) (Nat.lt_succ_self _))
