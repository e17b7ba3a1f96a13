/-! contracts of the reference: rspec3 -/
set_option maxRecDepth 100000 in
set_option maxHeartbeats 4000000 in
theorem c_X8_rename {X : jX} (hs : X.1.stackTraces = false) {d : Nat} (hd : 2 ≤ d) {n : Nat} {mv rw nx : Nat → Nat} {b : Nat} {bt : List Int32} {kn en dn rf kk th : Int32} {w : List jC} (hR : RM n mv rw nx b bt kn en dn rf kk th w) (hn1 : 2 ≤ n) (hn2 : n ≤ 7) (gm : ∀ i, mv i < 7) (gr : ∀ i, rw i < 7) (gx : ∀ i, nx i < 7) (a : Int32) (c : Int32) (e : Int32) (hy0 : PM n mv) (hy1 : KB n kn bt) {kc ks : Nat} : jMet X mX8_rename d kc ks [.ref 19, .int a, .int c, .int e] w (pI (fun _ => True) (fun w' => ∃ (mv' : Nat → Nat), ∃ (nx' : Nat → Nat), ∃ (kn' : Int32), ∃ (dn' : Int32), ∃ (th' : Int32), RM n mv' rw nx' b bt kn' en dn' rf kk th' w' ∧ FR b b w w' ∧ (∀ i, mv' i < 7) ∧ (∀ i, nx' i < 7) ∧ PM n mv' ∧ KB n kn' bt)) := by
  refine jMet_of hs (by decide +kernel) (Nat.le_of_ble_eq_true rfl) (L := [some (.ref 19), some (.int a), some (.int c), some (.int e), none]) rfl ?_
  have hfc := fc_7 hn2
  have hfp := fc_pos n
  obtain ⟨h19, h20, h21, h22, hbb, hbl, hb3⟩ := hR
  have hF : FR b b w w := FR.rf
  refine J_aload_n (pc := 0) dX8_rename_0 rfl rfl rfl ?_
  refine J_iload_n (pc := 1) dX8_rename_1 rfl rfl ?_
  refine J_callS0 (pc := 2) (M := mX8_rename) (as := [.int a]) dX8_rename_2 fw_X8_isCell fl_X8_108 fs_X8_isCell rfl (c_X8_isCell hs (d := d - 1) (by omega) (w := w) a (kc := 0) (ks := 0)) (by omega) (st := [.ref 19]) (Nat.le_of_ble_eq_true rfl) rfl (kr_P fun v1 hv1 => ?_) kx_I
  rcases hv1 with ⟨rfl, hk1_0⟩ | ⟨q1, rfl, hk1_0, rfl⟩
  · refine J_if_eqN (pc := 5) (tgt := 22) dX8_rename_5 (by decide) (by decide) (fun _ => ?_) (fun h => absurd h (by decide))
    refine J_iconst (pc := 22) (v := nI 1) dX8_rename_22 (by decide) ?_
    refine J_goto (pc := 23) (tgt := 27) dX8_rename_23 (by decide) ?_
    refine J_callV0 (pc := 27) (M := mX8_rename) (as := [.int (nI 1)]) dX8_rename_27 fw_X8_isThrown_ fl_X8_105 fm_X8_isThrown_ fe_X8_isThrown_ h19 (by decide) rfl rfl rfl (c_X8_isThrown_ hs (d := d - 1) (by omega) (w := w) (n := n) (mv := mv) (rw := rw) (nx := nx) (b := b) (bt := bt) (kn := kn) (en := en) (dn := dn) (rf := rf) (kk := kk) (th := th) ⟨h19, h20, h21, h22, hbb, hbl, hb3⟩ hn1 hn2 gm gr gx 1 (by first | assumption | omega) (kc := 0) (ks := 0)) (by omega) (st := []) (Nat.le_of_ble_eq_true rfl) rfl (kr_I fun v2 w2 hv2 hw2 => ?_) kx_I
    obtain ⟨hR2, hFc2⟩ := hw2
    obtain ⟨h19_2, h20_2, h21_2, h22_2, hbb_2, hbl_2, hb3_2⟩ := hR2
    have hF2 := hF.tr hFc2
    subst hv2
    show J X mX8_rename d kc ks 30 [some (.ref 19), some (.int a), some (.int c), some (.int e), none] [.int (nI 1)] w2 _
    refine J_if_eqN (pc := 30) (tgt := 35) dX8_rename_30 (by decide) (by decide) (fun h => absurd h (by decide)) (fun _ => ?_)
    refine J_iconst (pc := 33) (v := nI 0) dX8_rename_33 (by decide) ?_
    exact J_iret (pc := 34) dX8_rename_34 rfl ⟨trivial, ⟨mv, nx, kn, dn, nI (tW 1 0), ⟨h19_2, h20_2, h21_2, h22_2, hbb_2, hbl_2, hb3_2⟩, hF2, gm, gx, (by first | assumption | exact PM_st hn2 (by assumption) (by assumption) (by assumption)), (by first | assumption | exact Or.inl rfl)⟩⟩
  · refine J_if_eqN (pc := 5) (tgt := 22) dX8_rename_5 (by decide) (by decide) (fun h => absurd h (by decide)) (fun _ => ?_)
    refine J_iload_n (pc := 8) dX8_rename_8 rfl rfl ?_
    refine J_callS0 (pc := 9) (M := mX8_rename) (as := [.int c]) dX8_rename_9 fw_X8_isCell fl_X8_108 fs_X8_isCell rfl (c_X8_isCell hs (d := d - 1) (by omega) (w := w) c (kc := 0) (ks := 0)) (by omega) (st := [.ref 19]) (Nat.le_of_ble_eq_true rfl) rfl (kr_P fun v3 hv3 => ?_) kx_I
    rcases hv3 with ⟨rfl, hk3_0⟩ | ⟨q3, rfl, hk3_0, rfl⟩
    · refine J_if_eqN (pc := 12) (tgt := 22) dX8_rename_12 (by decide) (by decide) (fun _ => ?_) (fun h => absurd h (by decide))
      refine J_iconst (pc := 22) (v := nI 1) dX8_rename_22 (by decide) ?_
      refine J_goto (pc := 23) (tgt := 27) dX8_rename_23 (by decide) ?_
      refine J_callV0 (pc := 27) (M := mX8_rename) (as := [.int (nI 1)]) dX8_rename_27 fw_X8_isThrown_ fl_X8_105 fm_X8_isThrown_ fe_X8_isThrown_ h19 (by decide) rfl rfl rfl (c_X8_isThrown_ hs (d := d - 1) (by omega) (w := w) (n := n) (mv := mv) (rw := rw) (nx := nx) (b := b) (bt := bt) (kn := kn) (en := en) (dn := dn) (rf := rf) (kk := kk) (th := th) ⟨h19, h20, h21, h22, hbb, hbl, hb3⟩ hn1 hn2 gm gr gx 1 (by first | assumption | omega) (kc := 0) (ks := 0)) (by omega) (st := []) (Nat.le_of_ble_eq_true rfl) rfl (kr_I fun v4 w4 hv4 hw4 => ?_) kx_I
      obtain ⟨hR4, hFc4⟩ := hw4
      obtain ⟨h19_4, h20_4, h21_4, h22_4, hbb_4, hbl_4, hb3_4⟩ := hR4
      have hF4 := hF.tr hFc4
      subst hv4
      show J X mX8_rename d kc ks 30 [some (.ref 19), some (.int (nI q1)), some (.int c), some (.int e), none] [.int (nI 1)] w4 _
      refine J_if_eqN (pc := 30) (tgt := 35) dX8_rename_30 (by decide) (by decide) (fun h => absurd h (by decide)) (fun _ => ?_)
      refine J_iconst (pc := 33) (v := nI 0) dX8_rename_33 (by decide) ?_
      exact J_iret (pc := 34) dX8_rename_34 rfl ⟨trivial, ⟨mv, nx, kn, dn, nI (tW 1 0), ⟨h19_4, h20_4, h21_4, h22_4, hbb_4, hbl_4, hb3_4⟩, hF4, gm, gx, (by first | assumption | exact PM_st hn2 (by assumption) (by assumption) (by assumption)), (by first | assumption | exact Or.inl rfl)⟩⟩
    · refine J_if_eqN (pc := 12) (tgt := 22) dX8_rename_12 (by decide) (by decide) (fun h => absurd h (by decide)) (fun _ => ?_)
      refine J_iload_n (pc := 15) dX8_rename_15 rfl rfl ?_
      refine J_callS0 (pc := 16) (M := mX8_rename) (as := [.int e]) dX8_rename_16 fw_X8_isCell fl_X8_108 fs_X8_isCell rfl (c_X8_isCell hs (d := d - 1) (by omega) (w := w) e (kc := 0) (ks := 0)) (by omega) (st := [.ref 19]) (Nat.le_of_ble_eq_true rfl) rfl (kr_P fun v5 hv5 => ?_) kx_I
      rcases hv5 with ⟨rfl, hk5_0⟩ | ⟨q5, rfl, hk5_0, rfl⟩
      · refine J_if_neN (pc := 19) (tgt := 26) dX8_rename_19 (by decide) (by decide) (fun h => absurd h (by decide)) (fun _ => ?_)
        refine J_iconst (pc := 22) (v := nI 1) dX8_rename_22 (by decide) ?_
        refine J_goto (pc := 23) (tgt := 27) dX8_rename_23 (by decide) ?_
        refine J_callV0 (pc := 27) (M := mX8_rename) (as := [.int (nI 1)]) dX8_rename_27 fw_X8_isThrown_ fl_X8_105 fm_X8_isThrown_ fe_X8_isThrown_ h19 (by decide) rfl rfl rfl (c_X8_isThrown_ hs (d := d - 1) (by omega) (w := w) (n := n) (mv := mv) (rw := rw) (nx := nx) (b := b) (bt := bt) (kn := kn) (en := en) (dn := dn) (rf := rf) (kk := kk) (th := th) ⟨h19, h20, h21, h22, hbb, hbl, hb3⟩ hn1 hn2 gm gr gx 1 (by first | assumption | omega) (kc := 0) (ks := 0)) (by omega) (st := []) (Nat.le_of_ble_eq_true rfl) rfl (kr_I fun v6 w6 hv6 hw6 => ?_) kx_I
        obtain ⟨hR6, hFc6⟩ := hw6
        obtain ⟨h19_6, h20_6, h21_6, h22_6, hbb_6, hbl_6, hb3_6⟩ := hR6
        have hF6 := hF.tr hFc6
        subst hv6
        show J X mX8_rename d kc ks 30 [some (.ref 19), some (.int (nI q1)), some (.int (nI q3)), some (.int e), none] [.int (nI 1)] w6 _
        refine J_if_eqN (pc := 30) (tgt := 35) dX8_rename_30 (by decide) (by decide) (fun h => absurd h (by decide)) (fun _ => ?_)
        refine J_iconst (pc := 33) (v := nI 0) dX8_rename_33 (by decide) ?_
        exact J_iret (pc := 34) dX8_rename_34 rfl ⟨trivial, ⟨mv, nx, kn, dn, nI (tW 1 0), ⟨h19_6, h20_6, h21_6, h22_6, hbb_6, hbl_6, hb3_6⟩, hF6, gm, gx, (by first | assumption | exact PM_st hn2 (by assumption) (by assumption) (by assumption)), (by first | assumption | exact Or.inl rfl)⟩⟩
      · refine J_if_neN (pc := 19) (tgt := 26) dX8_rename_19 (by decide) (by decide) (fun _ => ?_) (fun h => absurd h (by decide))
        refine J_iconst (pc := 26) (v := nI 0) dX8_rename_26 (by decide) ?_
        refine J_callV0 (pc := 27) (M := mX8_rename) (as := [.int (nI 0)]) dX8_rename_27 fw_X8_isThrown_ fl_X8_105 fm_X8_isThrown_ fe_X8_isThrown_ h19 (by decide) rfl rfl rfl (c_X8_isThrown_ hs (d := d - 1) (by omega) (w := w) (n := n) (mv := mv) (rw := rw) (nx := nx) (b := b) (bt := bt) (kn := kn) (en := en) (dn := dn) (rf := rf) (kk := kk) (th := th) ⟨h19, h20, h21, h22, hbb, hbl, hb3⟩ hn1 hn2 gm gr gx 0 (by first | assumption | omega) (kc := 0) (ks := 0)) (by omega) (st := []) (Nat.le_of_ble_eq_true rfl) rfl (kr_I fun v7 w7 hv7 hw7 => ?_) kx_I
        obtain ⟨hR7, hFc7⟩ := hw7
        obtain ⟨h19_7, h20_7, h21_7, h22_7, hbb_7, hbl_7, hb3_7⟩ := hR7
        have hF7 := hF.tr hFc7
        subst hv7
        show J X mX8_rename d kc ks 30 [some (.ref 19), some (.int (nI q1)), some (.int (nI q3)), some (.int (nI q5)), none] [.int (nI 0)] w7 _
        refine J_if_eqN (pc := 30) (tgt := 35) dX8_rename_30 (by decide) (by decide) (fun _ => ?_) (fun h => absurd h (by decide))
        refine J_iconst (pc := 35) (v := nI 0) dX8_rename_35 (by decide) ?_
        refine J_istore (pc := 36) dX8_rename_36 (by decide) rfl ?_
        show J X mX8_rename d kc ks 38 [some (.ref 19), some (.int (nI q1)), some (.int (nI q3)), some (.int (nI q5)), some (.int (nI 0))] [] w7 _
        have lp38_8 : ∀ (fuel : Nat) (w9 : List jC) (nx_38 : Nat → Nat) (c4 : Nat), (RM n mv rw nx_38 b bt kn en dn rf kk (nI (tW 0 0)) w9) → (FR b b w w9) → (∀ i, nx_38 i < 7) → (∀ p, p < c4 → nx_38 (mv (q3 * 7 + p)) = mv (q3 * 7 + mv (q1 * 7 + p))) → (c4 ≤ n) → (n - c4 < fuel) → J X mX8_rename d kc ks 38 [some (.ref 19), some (.int (nI q1)), some (.int (nI q3)), some (.int (nI q5)), some (.int (nI c4))] [] w9 (pI (fun _ => True) (fun w' => ∃ (mv' : Nat → Nat), ∃ (nx' : Nat → Nat), ∃ (kn' : Int32), ∃ (dn' : Int32), ∃ (th' : Int32), RM n mv' rw nx' b bt kn' en dn' rf kk th' w' ∧ FR b b w w' ∧ (∀ i, mv' i < 7) ∧ (∀ i, nx' i < 7) ∧ PM n mv' ∧ KB n kn' bt)) := by
          intro fuellp38_8
          induction fuellp38_8 with
          | zero => intros; omega
          | succ fuellp38_8 ihlp38_8 =>
            intro w9 nx_38 c4 hR10 hF11 gx12 hv38_0 hv38_1 hf13
            obtain ⟨h19_14, h20_14, h21_14, h22_14, hb_14, hbl_14, hb3_14⟩ := hR10
            refine J_iload (pc := 38) dX8_rename_38 rfl ?_
            refine J_aload_n (pc := 40) dX8_rename_40 rfl rfl rfl ?_
            refine J_get (pc := 41) (k := 0) dX8_rename_41 kC9 (by decide) ff_X8_7 h19_14 rfl ?_
            refine J_icmp_geN (pc := 44) (tgt := 77) dX8_rename_44 (by decide) (by omega) (by omega) (fun ht15 => ?_) (fun hf16 => ?_)
            · have hPx := Pn_inv (g := nx_38) (hy0 q3 (by omega)) (Pn.comp (hy0 q1 (by omega)) (hy0 q3 (by omega))) (fun p hp => hv38_0 p (by omega))
              refine J_aload_n (pc := 77) dX8_rename_77 rfl rfl rfl ?_
              refine J_iload_n (pc := 78) dX8_rename_78 rfl rfl ?_
              refine J_aload_n (pc := 79) dX8_rename_79 rfl rfl rfl ?_
              refine J_get (pc := 80) (k := 3) dX8_rename_80 kC9 (by decide) ff_X8_20 h19_14 rfl ?_
              refine J_callV0 (pc := 83) (M := mX8_rename) (as := [.int (nI q5), .ref 22]) dX8_rename_83 fw_X8_get fl_X8_111 fm_X8_get fe_X8_get h19_14 (by decide) rfl rfl rfl (c_X8_get_at22 hs (d := d - 1) (by omega) (w := w9) (n := n) (mv := mv) (rw := rw) (nx := nx_38) (b := b) (bt := bt) (kn := kn) (en := en) (dn := dn) (rf := rf) (kk := kk) (th := nI (tW 0 0)) ⟨h19_14, h20_14, h21_14, h22_14, hb_14, hbl_14, hb3_14⟩ hn1 hn2 gm gr gx12 q5 (by first | assumption | omega) (kc := 0) (ks := 0)) (by omega) (st := []) (Nat.le_of_ble_eq_true rfl) rfl (kr_I fun v17 w17 hv17 hw17 => ?_) kx_I
              obtain ⟨mv17, hR17, hFc17, hgmv17, hp17_0⟩ := hw17
              obtain ⟨h19_17, h20_17, h21_17, h22_17, hbb_17, hbl_17, hb3_17⟩ := hR17
              have hF17 := hF11.tr hFc17
              subst hv17
              exact J_iret (pc := 86) dX8_rename_86 rfl ⟨trivial, ⟨mv17, nx_38, (-1), (dn + nI 1), nI (tW 0 0), ⟨h19_17, h20_17, h21_17, h22_17, hbb_17, hbl_17, hb3_17⟩, hF17, hgmv17, gx12, (by first | assumption | exact PM_st hn2 (by assumption) (by assumption) (by assumption)), (by first | assumption | exact Or.inl rfl)⟩⟩
            · refine J_aload_n (pc := 47) dX8_rename_47 rfl rfl rfl ?_
              refine J_get (pc := 48) (k := 3) dX8_rename_48 kC9 (by decide) ff_X8_20 h19_14 rfl ?_
              refine J_aload_n (pc := 51) dX8_rename_51 rfl rfl rfl ?_
              refine J_iload_n (pc := 52) dX8_rename_52 rfl rfl ?_
              refine J_iload (pc := 53) dX8_rename_53 rfl ?_
              refine J_callV0 (pc := 55) (M := mX8_rename) (as := [.int (nI q3), .int (nI c4)]) dX8_rename_55 fw_X8_at fl_X8_82 fm_X8_at fe_X8_at h19_14 (by decide) rfl rfl rfl (c_X8_at hs (d := d - 1) (by omega) (w := w9) (n := n) (mv := mv) (rw := rw) (nx := nx_38) (b := b) (bt := bt) (kn := kn) (en := en) (dn := dn) (rf := rf) (kk := kk) (th := nI (tW 0 0)) ⟨h19_14, h20_14, h21_14, h22_14, hb_14, hbl_14, hb3_14⟩ hn1 hn2 gm gr gx12 q3 c4 (by first | assumption | omega) (by first | assumption | omega) (kc := 0) (ks := 0)) (by omega) (st := [.ref 22]) (Nat.le_of_ble_eq_true rfl) rfl (kr_P fun v18 hv18 => ?_) kx_I
              subst hv18
              have hq19 := gm (q3 * 7 + c4)
              refine J_aload_n (pc := 58) dX8_rename_58 rfl rfl rfl ?_
              refine J_iload_n (pc := 59) dX8_rename_59 rfl rfl ?_
              refine J_aload_n (pc := 60) dX8_rename_60 rfl rfl rfl ?_
              refine J_iload_n (pc := 61) dX8_rename_61 rfl rfl ?_
              refine J_iload (pc := 62) dX8_rename_62 rfl ?_
              refine J_callV0 (pc := 64) (M := mX8_rename) (as := [.int (nI q1), .int (nI c4)]) dX8_rename_64 fw_X8_at fl_X8_82 fm_X8_at fe_X8_at h19_14 (by decide) rfl rfl rfl (c_X8_at hs (d := d - 1) (by omega) (w := w9) (n := n) (mv := mv) (rw := rw) (nx := nx_38) (b := b) (bt := bt) (kn := kn) (en := en) (dn := dn) (rf := rf) (kk := kk) (th := nI (tW 0 0)) ⟨h19_14, h20_14, h21_14, h22_14, hb_14, hbl_14, hb3_14⟩ hn1 hn2 gm gr gx12 q1 c4 (by first | assumption | omega) (by first | assumption | omega) (kc := 0) (ks := 0)) (by omega) (st := [.int (nI q3), .ref 19, .int (nI (mv (q3 * 7 + c4))), .ref 22]) (Nat.le_of_ble_eq_true rfl) rfl (kr_P fun v20 hv20 => ?_) kx_I
              subst hv20
              have hq21 := gm (q1 * 7 + c4)
              refine J_callV0 (pc := 67) (M := mX8_rename) (as := [.int (nI q3), .int (nI (mv (q1 * 7 + c4)))]) dX8_rename_67 fw_X8_at fl_X8_82 fm_X8_at fe_X8_at h19_14 (by decide) rfl rfl rfl (c_X8_at hs (d := d - 1) (by omega) (w := w9) (n := n) (mv := mv) (rw := rw) (nx := nx_38) (b := b) (bt := bt) (kn := kn) (en := en) (dn := dn) (rf := rf) (kk := kk) (th := nI (tW 0 0)) ⟨h19_14, h20_14, h21_14, h22_14, hb_14, hbl_14, hb3_14⟩ hn1 hn2 gm gr gx12 q3 (mv (q1 * 7 + c4)) (by first | assumption | omega) (by first | assumption | omega) (kc := 0) (ks := 0)) (by omega) (st := [.int (nI (mv (q3 * 7 + c4))), .ref 22]) (Nat.le_of_ble_eq_true rfl) rfl (kr_P fun v22 hv22 => ?_) kx_I
              subst hv22
              have hq23 := gm (q3 * 7 + (mv (q1 * 7 + c4)))
              refine J_iastF (pc := 70) dX8_rename_70 h22_14 (by omega) (by decide) (fun w24 hln24 hc24 hne24 => ?_)
              have hg24 : ∀ i, (up nx_38 (mv (q3 * 7 + c4)) (mv (q3 * 7 + (mv (q1 * 7 + c4))))) i < 7 := up_b gx12 (by omega)
              have h19_24 := (hne24 19 (by omega)).trans h19_14
              have h20_24 := (hne24 20 (by omega)).trans h20_14
              have h21_24 := (hne24 21 (by omega)).trans h21_14
              have hb_24 := (hne24 _ (by omega)).trans hb_14
              have hF24 := hF11.st hln24 hne24 (Or.inl (by decide))
              refine J_iincN (pc := 71) (b := 1) dX8_rename_71 rfl (by decide) (by decide) rfl ?_
              show J X mX8_rename d kc ks 74 [some (.ref 19), some (.int (nI q1)), some (.int (nI q3)), some (.int (nI q5)), some (.int (nI (c4 + 1)))] [] w24 _
              refine J_goto (pc := 74) (tgt := 38) dX8_rename_74 (by decide) ?_
              exact J_sub (L' := [some (.ref 19), some (.int (nI q1)), some (.int (nI q3)), some (.int (nI q5)), some (.int (nI (c4 + 1)))]) ⟨rfl, ⟨rfl, ⟨rfl, ⟨rfl, ⟨rfl, trivial⟩⟩⟩⟩⟩ (ihlp38_8 w24 (up nx_38 (mv (q3 * 7 + c4)) (mv (q3 * 7 + (mv (q1 * 7 + c4))))) (c4 + 1) ⟨h19_24, h20_24, h21_24, hc24, hb_24, hbl_14, hb3_14⟩ hF24 hg24 (by intro p hp; by_cases e : p = c4; (subst e; exact up_s _ _ _); (rw [up_n (fun q => e ((hy0 q3 (by omega)).2 p c4 (by omega) (by omega) q))]; exact hv38_0 p (by omega))) (by first | assumption | omega) (by omega))
        exact J_sub (L' := [some (.ref 19), some (.int (nI q1)), some (.int (nI q3)), some (.int (nI q5)), some (.int (nI 0))]) ⟨rfl, ⟨rfl, ⟨rfl, ⟨rfl, ⟨rfl, trivial⟩⟩⟩⟩⟩ (lp38_8 _ w7 nx 0 ⟨h19_7, h20_7, h21_7, h22_7, hbb_7, hbl_7, hb3_7⟩ hF7 gx (by intro p hp; omega) (by first | assumption | omega) (Nat.lt_succ_self _))
set_option maxRecDepth 100000 in
set_option maxHeartbeats 4000000 in
theorem c_X8_power {X : jX} (hs : X.1.stackTraces = false) {d : Nat} (hd : 2 ≤ d) {n : Nat} {mv rw nx : Nat → Nat} {b : Nat} {bt : List Int32} {kn en dn rf kk th : Int32} {w : List jC} (hR : RM n mv rw nx b bt kn en dn rf kk th w) (hn1 : 2 ≤ n) (hn2 : n ≤ 7) (gm : ∀ i, mv i < 7) (gr : ∀ i, rw i < 7) (gx : ∀ i, nx i < 7) (a : Int32) (c : Int32) (e : Int32) (hy0 : PM n mv) (hy1 : KB n kn bt) {kc ks : Nat} : jMet X mX8_power d kc ks [.ref 19, .int a, .int c, .int e] w (pI (fun _ => True) (fun w' => ∃ (mv' : Nat → Nat), ∃ (nx' : Nat → Nat), ∃ (kn' : Int32), ∃ (dn' : Int32), ∃ (th' : Int32), RM n mv' rw nx' b bt kn' en dn' rf kk th' w' ∧ FR b b w w' ∧ (∀ i, mv' i < 7) ∧ (∀ i, nx' i < 7) ∧ PM n mv' ∧ KB n kn' bt)) := by
  refine jMet_of hs (by decide +kernel) (Nat.le_of_ble_eq_true rfl) (L := [some (.ref 19), some (.int a), some (.int c), some (.int e), none, none, none, none]) rfl ?_
  have hfc := fc_7 hn2
  have hfp := fc_pos n
  obtain ⟨h19, h20, h21, h22, hbb, hbl, hb3⟩ := hR
  have hF : FR b b w w := FR.rf
  refine J_aload_n (pc := 0) dX8_power_0 rfl rfl rfl ?_
  refine J_iload_n (pc := 1) dX8_power_1 rfl rfl ?_
  refine J_callS0 (pc := 2) (M := mX8_power) (as := [.int a]) dX8_power_2 fw_X8_isCell fl_X8_108 fs_X8_isCell rfl (c_X8_isCell hs (d := d - 1) (by omega) (w := w) a (kc := 0) (ks := 0)) (by omega) (st := [.ref 19]) (Nat.le_of_ble_eq_true rfl) rfl (kr_P fun v1 hv1 => ?_) kx_I
  rcases hv1 with ⟨rfl, hk1_0⟩ | ⟨q1, rfl, hk1_0, rfl⟩
  · refine J_if_eqN (pc := 5) (tgt := 15) dX8_power_5 (by decide) (by decide) (fun _ => ?_) (fun h => absurd h (by decide))
    refine J_iconst (pc := 15) (v := nI 1) dX8_power_15 (by decide) ?_
    refine J_goto (pc := 16) (tgt := 20) dX8_power_16 (by decide) ?_
    refine J_iload_n (pc := 20) dX8_power_20 rfl rfl ?_
    refine J_sipush (pc := 21) (v := (-1000)) dX8_power_21 (by decide) ?_
    refine J_icmp_lt (pc := 24) (tgt := 34) dX8_power_24 (by decide) (fun ht2 => ?_) (fun hf3 => ?_)
    · refine J_iconst (pc := 34) (v := nI 1) dX8_power_34 (by decide) ?_
      refine J_goto (pc := 35) (tgt := 39) dX8_power_35 (by decide) ?_
      refine J_callV0 (pc := 39) (M := mX8_power) (as := [.int (nI 1), .int (nI 1)]) dX8_power_39 fw_X8_isThrown fl_X8_35 fm_X8_isThrown fe_X8_isThrown h19 (by decide) rfl rfl rfl (c_X8_isThrown hs (d := d - 1) (by omega) (w := w) (n := n) (mv := mv) (rw := rw) (nx := nx) (b := b) (bt := bt) (kn := kn) (en := en) (dn := dn) (rf := rf) (kk := kk) (th := th) ⟨h19, h20, h21, h22, hbb, hbl, hb3⟩ hn1 hn2 gm gr gx 1 1 (by first | assumption | omega) (by first | assumption | omega) (kc := 0) (ks := 0)) (by omega) (st := []) (Nat.le_of_ble_eq_true rfl) rfl (kr_I fun v4 w4 hv4 hw4 => ?_) kx_I
      obtain ⟨hR4, hFc4⟩ := hw4
      obtain ⟨h19_4, h20_4, h21_4, h22_4, hbb_4, hbl_4, hb3_4⟩ := hR4
      have hF4 := hF.tr hFc4
      subst hv4
      show J X mX8_power d kc ks 42 [some (.ref 19), some (.int a), some (.int c), some (.int e), none, none, none, none] [.int (nI 1)] w4 _
      refine J_if_eqN (pc := 42) (tgt := 47) dX8_power_42 (by decide) (by decide) (fun h => absurd h (by decide)) (fun _ => ?_)
      refine J_iconst (pc := 45) (v := nI 0) dX8_power_45 (by decide) ?_
      exact J_iret (pc := 46) dX8_power_46 rfl ⟨trivial, ⟨mv, nx, kn, dn, nI (tW 1 1), ⟨h19_4, h20_4, h21_4, h22_4, hbb_4, hbl_4, hb3_4⟩, hF4, gm, gx, (by first | assumption | exact PM_st hn2 (by assumption) (by assumption) (by assumption)), (by first | assumption | exact Or.inl rfl)⟩⟩
    · refine J_iload_n (pc := 27) dX8_power_27 rfl rfl ?_
      refine J_sipush (pc := 28) (v := nI 1000) dX8_power_28 (by decide) ?_
      refine J_icmp_le (pc := 31) (tgt := 38) dX8_power_31 (by decide) (fun ht5 => ?_) (fun hf6 => ?_)
      · refine J_iconst (pc := 38) (v := nI 0) dX8_power_38 (by decide) ?_
        refine J_callV0 (pc := 39) (M := mX8_power) (as := [.int (nI 1), .int (nI 0)]) dX8_power_39 fw_X8_isThrown fl_X8_35 fm_X8_isThrown fe_X8_isThrown h19 (by decide) rfl rfl rfl (c_X8_isThrown hs (d := d - 1) (by omega) (w := w) (n := n) (mv := mv) (rw := rw) (nx := nx) (b := b) (bt := bt) (kn := kn) (en := en) (dn := dn) (rf := rf) (kk := kk) (th := th) ⟨h19, h20, h21, h22, hbb, hbl, hb3⟩ hn1 hn2 gm gr gx 1 0 (by first | assumption | omega) (by first | assumption | omega) (kc := 0) (ks := 0)) (by omega) (st := []) (Nat.le_of_ble_eq_true rfl) rfl (kr_I fun v7 w7 hv7 hw7 => ?_) kx_I
        obtain ⟨hR7, hFc7⟩ := hw7
        obtain ⟨h19_7, h20_7, h21_7, h22_7, hbb_7, hbl_7, hb3_7⟩ := hR7
        have hF7 := hF.tr hFc7
        subst hv7
        show J X mX8_power d kc ks 42 [some (.ref 19), some (.int a), some (.int c), some (.int e), none, none, none, none] [.int (nI 1)] w7 _
        refine J_if_eqN (pc := 42) (tgt := 47) dX8_power_42 (by decide) (by decide) (fun h => absurd h (by decide)) (fun _ => ?_)
        refine J_iconst (pc := 45) (v := nI 0) dX8_power_45 (by decide) ?_
        exact J_iret (pc := 46) dX8_power_46 rfl ⟨trivial, ⟨mv, nx, kn, dn, nI (tW 1 0), ⟨h19_7, h20_7, h21_7, h22_7, hbb_7, hbl_7, hb3_7⟩, hF7, gm, gx, (by first | assumption | exact PM_st hn2 (by assumption) (by assumption) (by assumption)), (by first | assumption | exact Or.inl rfl)⟩⟩
      · refine J_iconst (pc := 34) (v := nI 1) dX8_power_34 (by decide) ?_
        refine J_goto (pc := 35) (tgt := 39) dX8_power_35 (by decide) ?_
        refine J_callV0 (pc := 39) (M := mX8_power) (as := [.int (nI 1), .int (nI 1)]) dX8_power_39 fw_X8_isThrown fl_X8_35 fm_X8_isThrown fe_X8_isThrown h19 (by decide) rfl rfl rfl (c_X8_isThrown hs (d := d - 1) (by omega) (w := w) (n := n) (mv := mv) (rw := rw) (nx := nx) (b := b) (bt := bt) (kn := kn) (en := en) (dn := dn) (rf := rf) (kk := kk) (th := th) ⟨h19, h20, h21, h22, hbb, hbl, hb3⟩ hn1 hn2 gm gr gx 1 1 (by first | assumption | omega) (by first | assumption | omega) (kc := 0) (ks := 0)) (by omega) (st := []) (Nat.le_of_ble_eq_true rfl) rfl (kr_I fun v8 w8 hv8 hw8 => ?_) kx_I
        obtain ⟨hR8, hFc8⟩ := hw8
        obtain ⟨h19_8, h20_8, h21_8, h22_8, hbb_8, hbl_8, hb3_8⟩ := hR8
        have hF8 := hF.tr hFc8
        subst hv8
        show J X mX8_power d kc ks 42 [some (.ref 19), some (.int a), some (.int c), some (.int e), none, none, none, none] [.int (nI 1)] w8 _
        refine J_if_eqN (pc := 42) (tgt := 47) dX8_power_42 (by decide) (by decide) (fun h => absurd h (by decide)) (fun _ => ?_)
        refine J_iconst (pc := 45) (v := nI 0) dX8_power_45 (by decide) ?_
        exact J_iret (pc := 46) dX8_power_46 rfl ⟨trivial, ⟨mv, nx, kn, dn, nI (tW 1 1), ⟨h19_8, h20_8, h21_8, h22_8, hbb_8, hbl_8, hb3_8⟩, hF8, gm, gx, (by first | assumption | exact PM_st hn2 (by assumption) (by assumption) (by assumption)), (by first | assumption | exact Or.inl rfl)⟩⟩
  · refine J_if_eqN (pc := 5) (tgt := 15) dX8_power_5 (by decide) (by decide) (fun h => absurd h (by decide)) (fun _ => ?_)
    refine J_iload_n (pc := 8) dX8_power_8 rfl rfl ?_
    refine J_callS0 (pc := 9) (M := mX8_power) (as := [.int e]) dX8_power_9 fw_X8_isCell fl_X8_108 fs_X8_isCell rfl (c_X8_isCell hs (d := d - 1) (by omega) (w := w) e (kc := 0) (ks := 0)) (by omega) (st := [.ref 19]) (Nat.le_of_ble_eq_true rfl) rfl (kr_P fun v9 hv9 => ?_) kx_I
    rcases hv9 with ⟨rfl, hk9_0⟩ | ⟨q9, rfl, hk9_0, rfl⟩
    · refine J_if_neN (pc := 12) (tgt := 19) dX8_power_12 (by decide) (by decide) (fun h => absurd h (by decide)) (fun _ => ?_)
      refine J_iconst (pc := 15) (v := nI 1) dX8_power_15 (by decide) ?_
      refine J_goto (pc := 16) (tgt := 20) dX8_power_16 (by decide) ?_
      refine J_iload_n (pc := 20) dX8_power_20 rfl rfl ?_
      refine J_sipush (pc := 21) (v := (-1000)) dX8_power_21 (by decide) ?_
      refine J_icmp_lt (pc := 24) (tgt := 34) dX8_power_24 (by decide) (fun ht10 => ?_) (fun hf11 => ?_)
      · refine J_iconst (pc := 34) (v := nI 1) dX8_power_34 (by decide) ?_
        refine J_goto (pc := 35) (tgt := 39) dX8_power_35 (by decide) ?_
        refine J_callV0 (pc := 39) (M := mX8_power) (as := [.int (nI 1), .int (nI 1)]) dX8_power_39 fw_X8_isThrown fl_X8_35 fm_X8_isThrown fe_X8_isThrown h19 (by decide) rfl rfl rfl (c_X8_isThrown hs (d := d - 1) (by omega) (w := w) (n := n) (mv := mv) (rw := rw) (nx := nx) (b := b) (bt := bt) (kn := kn) (en := en) (dn := dn) (rf := rf) (kk := kk) (th := th) ⟨h19, h20, h21, h22, hbb, hbl, hb3⟩ hn1 hn2 gm gr gx 1 1 (by first | assumption | omega) (by first | assumption | omega) (kc := 0) (ks := 0)) (by omega) (st := []) (Nat.le_of_ble_eq_true rfl) rfl (kr_I fun v12 w12 hv12 hw12 => ?_) kx_I
        obtain ⟨hR12, hFc12⟩ := hw12
        obtain ⟨h19_12, h20_12, h21_12, h22_12, hbb_12, hbl_12, hb3_12⟩ := hR12
        have hF12 := hF.tr hFc12
        subst hv12
        show J X mX8_power d kc ks 42 [some (.ref 19), some (.int (nI q1)), some (.int c), some (.int e), none, none, none, none] [.int (nI 1)] w12 _
        refine J_if_eqN (pc := 42) (tgt := 47) dX8_power_42 (by decide) (by decide) (fun h => absurd h (by decide)) (fun _ => ?_)
        refine J_iconst (pc := 45) (v := nI 0) dX8_power_45 (by decide) ?_
        exact J_iret (pc := 46) dX8_power_46 rfl ⟨trivial, ⟨mv, nx, kn, dn, nI (tW 1 1), ⟨h19_12, h20_12, h21_12, h22_12, hbb_12, hbl_12, hb3_12⟩, hF12, gm, gx, (by first | assumption | exact PM_st hn2 (by assumption) (by assumption) (by assumption)), (by first | assumption | exact Or.inl rfl)⟩⟩
      · refine J_iload_n (pc := 27) dX8_power_27 rfl rfl ?_
        refine J_sipush (pc := 28) (v := nI 1000) dX8_power_28 (by decide) ?_
        refine J_icmp_le (pc := 31) (tgt := 38) dX8_power_31 (by decide) (fun ht13 => ?_) (fun hf14 => ?_)
        · refine J_iconst (pc := 38) (v := nI 0) dX8_power_38 (by decide) ?_
          refine J_callV0 (pc := 39) (M := mX8_power) (as := [.int (nI 1), .int (nI 0)]) dX8_power_39 fw_X8_isThrown fl_X8_35 fm_X8_isThrown fe_X8_isThrown h19 (by decide) rfl rfl rfl (c_X8_isThrown hs (d := d - 1) (by omega) (w := w) (n := n) (mv := mv) (rw := rw) (nx := nx) (b := b) (bt := bt) (kn := kn) (en := en) (dn := dn) (rf := rf) (kk := kk) (th := th) ⟨h19, h20, h21, h22, hbb, hbl, hb3⟩ hn1 hn2 gm gr gx 1 0 (by first | assumption | omega) (by first | assumption | omega) (kc := 0) (ks := 0)) (by omega) (st := []) (Nat.le_of_ble_eq_true rfl) rfl (kr_I fun v15 w15 hv15 hw15 => ?_) kx_I
          obtain ⟨hR15, hFc15⟩ := hw15
          obtain ⟨h19_15, h20_15, h21_15, h22_15, hbb_15, hbl_15, hb3_15⟩ := hR15
          have hF15 := hF.tr hFc15
          subst hv15
          show J X mX8_power d kc ks 42 [some (.ref 19), some (.int (nI q1)), some (.int c), some (.int e), none, none, none, none] [.int (nI 1)] w15 _
          refine J_if_eqN (pc := 42) (tgt := 47) dX8_power_42 (by decide) (by decide) (fun h => absurd h (by decide)) (fun _ => ?_)
          refine J_iconst (pc := 45) (v := nI 0) dX8_power_45 (by decide) ?_
          exact J_iret (pc := 46) dX8_power_46 rfl ⟨trivial, ⟨mv, nx, kn, dn, nI (tW 1 0), ⟨h19_15, h20_15, h21_15, h22_15, hbb_15, hbl_15, hb3_15⟩, hF15, gm, gx, (by first | assumption | exact PM_st hn2 (by assumption) (by assumption) (by assumption)), (by first | assumption | exact Or.inl rfl)⟩⟩
        · refine J_iconst (pc := 34) (v := nI 1) dX8_power_34 (by decide) ?_
          refine J_goto (pc := 35) (tgt := 39) dX8_power_35 (by decide) ?_
          refine J_callV0 (pc := 39) (M := mX8_power) (as := [.int (nI 1), .int (nI 1)]) dX8_power_39 fw_X8_isThrown fl_X8_35 fm_X8_isThrown fe_X8_isThrown h19 (by decide) rfl rfl rfl (c_X8_isThrown hs (d := d - 1) (by omega) (w := w) (n := n) (mv := mv) (rw := rw) (nx := nx) (b := b) (bt := bt) (kn := kn) (en := en) (dn := dn) (rf := rf) (kk := kk) (th := th) ⟨h19, h20, h21, h22, hbb, hbl, hb3⟩ hn1 hn2 gm gr gx 1 1 (by first | assumption | omega) (by first | assumption | omega) (kc := 0) (ks := 0)) (by omega) (st := []) (Nat.le_of_ble_eq_true rfl) rfl (kr_I fun v16 w16 hv16 hw16 => ?_) kx_I
          obtain ⟨hR16, hFc16⟩ := hw16
          obtain ⟨h19_16, h20_16, h21_16, h22_16, hbb_16, hbl_16, hb3_16⟩ := hR16
          have hF16 := hF.tr hFc16
          subst hv16
          show J X mX8_power d kc ks 42 [some (.ref 19), some (.int (nI q1)), some (.int c), some (.int e), none, none, none, none] [.int (nI 1)] w16 _
          refine J_if_eqN (pc := 42) (tgt := 47) dX8_power_42 (by decide) (by decide) (fun h => absurd h (by decide)) (fun _ => ?_)
          refine J_iconst (pc := 45) (v := nI 0) dX8_power_45 (by decide) ?_
          exact J_iret (pc := 46) dX8_power_46 rfl ⟨trivial, ⟨mv, nx, kn, dn, nI (tW 1 1), ⟨h19_16, h20_16, h21_16, h22_16, hbb_16, hbl_16, hb3_16⟩, hF16, gm, gx, (by first | assumption | exact PM_st hn2 (by assumption) (by assumption) (by assumption)), (by first | assumption | exact Or.inl rfl)⟩⟩
    · refine J_if_neN (pc := 12) (tgt := 19) dX8_power_12 (by decide) (by decide) (fun _ => ?_) (fun h => absurd h (by decide))
      refine J_iconst (pc := 19) (v := nI 0) dX8_power_19 (by decide) ?_
      refine J_iload_n (pc := 20) dX8_power_20 rfl rfl ?_
      refine J_sipush (pc := 21) (v := (-1000)) dX8_power_21 (by decide) ?_
      refine J_icmp_lt (pc := 24) (tgt := 34) dX8_power_24 (by decide) (fun ht17 => ?_) (fun hf18 => ?_)
      · refine J_iconst (pc := 34) (v := nI 1) dX8_power_34 (by decide) ?_
        refine J_goto (pc := 35) (tgt := 39) dX8_power_35 (by decide) ?_
        refine J_callV0 (pc := 39) (M := mX8_power) (as := [.int (nI 0), .int (nI 1)]) dX8_power_39 fw_X8_isThrown fl_X8_35 fm_X8_isThrown fe_X8_isThrown h19 (by decide) rfl rfl rfl (c_X8_isThrown hs (d := d - 1) (by omega) (w := w) (n := n) (mv := mv) (rw := rw) (nx := nx) (b := b) (bt := bt) (kn := kn) (en := en) (dn := dn) (rf := rf) (kk := kk) (th := th) ⟨h19, h20, h21, h22, hbb, hbl, hb3⟩ hn1 hn2 gm gr gx 0 1 (by first | assumption | omega) (by first | assumption | omega) (kc := 0) (ks := 0)) (by omega) (st := []) (Nat.le_of_ble_eq_true rfl) rfl (kr_I fun v19 w19 hv19 hw19 => ?_) kx_I
        obtain ⟨hR19, hFc19⟩ := hw19
        obtain ⟨h19_19, h20_19, h21_19, h22_19, hbb_19, hbl_19, hb3_19⟩ := hR19
        have hF19 := hF.tr hFc19
        subst hv19
        show J X mX8_power d kc ks 42 [some (.ref 19), some (.int (nI q1)), some (.int c), some (.int (nI q9)), none, none, none, none] [.int (nI 1)] w19 _
        refine J_if_eqN (pc := 42) (tgt := 47) dX8_power_42 (by decide) (by decide) (fun h => absurd h (by decide)) (fun _ => ?_)
        refine J_iconst (pc := 45) (v := nI 0) dX8_power_45 (by decide) ?_
        exact J_iret (pc := 46) dX8_power_46 rfl ⟨trivial, ⟨mv, nx, kn, dn, nI (tW 0 1), ⟨h19_19, h20_19, h21_19, h22_19, hbb_19, hbl_19, hb3_19⟩, hF19, gm, gx, (by first | assumption | exact PM_st hn2 (by assumption) (by assumption) (by assumption)), (by first | assumption | exact Or.inl rfl)⟩⟩
      · refine J_iload_n (pc := 27) dX8_power_27 rfl rfl ?_
        refine J_sipush (pc := 28) (v := nI 1000) dX8_power_28 (by decide) ?_
        refine J_icmp_le (pc := 31) (tgt := 38) dX8_power_31 (by decide) (fun ht20 => ?_) (fun hf21 => ?_)
        · refine J_iconst (pc := 38) (v := nI 0) dX8_power_38 (by decide) ?_
          refine J_callV0 (pc := 39) (M := mX8_power) (as := [.int (nI 0), .int (nI 0)]) dX8_power_39 fw_X8_isThrown fl_X8_35 fm_X8_isThrown fe_X8_isThrown h19 (by decide) rfl rfl rfl (c_X8_isThrown hs (d := d - 1) (by omega) (w := w) (n := n) (mv := mv) (rw := rw) (nx := nx) (b := b) (bt := bt) (kn := kn) (en := en) (dn := dn) (rf := rf) (kk := kk) (th := th) ⟨h19, h20, h21, h22, hbb, hbl, hb3⟩ hn1 hn2 gm gr gx 0 0 (by first | assumption | omega) (by first | assumption | omega) (kc := 0) (ks := 0)) (by omega) (st := []) (Nat.le_of_ble_eq_true rfl) rfl (kr_I fun v22 w22 hv22 hw22 => ?_) kx_I
          obtain ⟨hR22, hFc22⟩ := hw22
          obtain ⟨h19_22, h20_22, h21_22, h22_22, hbb_22, hbl_22, hb3_22⟩ := hR22
          have hF22 := hF.tr hFc22
          subst hv22
          show J X mX8_power d kc ks 42 [some (.ref 19), some (.int (nI q1)), some (.int c), some (.int (nI q9)), none, none, none, none] [.int (nI 0)] w22 _
          refine J_if_eqN (pc := 42) (tgt := 47) dX8_power_42 (by decide) (by decide) (fun _ => ?_) (fun h => absurd h (by decide))
          obtain ⟨T, hT⟩ := pow_T (Int32.not_lt.mp (by assumption)) (by assumption)
          refine J_iconst (pc := 47) (v := nI 0) dX8_power_47 (by decide) ?_
          refine J_istore (pc := 48) dX8_power_48 (by decide) rfl ?_
          show J X mX8_power d kc ks 50 [some (.ref 19), some (.int (nI q1)), some (.int c), some (.int (nI q9)), some (.int (nI 0)), none, none, none] [] w22 _
          have lp50_23 : ∀ (fuel : Nat) (w24 : List jC) (nx_50 : Nat → Nat) (c4 : Nat), (RM n mv rw nx_50 b bt kn en dn rf kk (nI (tW 0 0)) w24) → (FR b b w w24) → (∀ i, nx_50 i < 7) → (∀ p, p < c4 → nx_50 p = it (fun p => mv (q1 * 7 + p)) T p) → (c4 ≤ n) → (n - c4 < fuel) → J X mX8_power d kc ks 50 [some (.ref 19), some (.int (nI q1)), some (.int c), some (.int (nI q9)), some (.int (nI c4)), none, none, none] [] w24 (pI (fun _ => True) (fun w' => ∃ (mv' : Nat → Nat), ∃ (nx' : Nat → Nat), ∃ (kn' : Int32), ∃ (dn' : Int32), ∃ (th' : Int32), RM n mv' rw nx' b bt kn' en dn' rf kk th' w' ∧ FR b b w w' ∧ (∀ i, mv' i < 7) ∧ (∀ i, nx' i < 7) ∧ PM n mv' ∧ KB n kn' bt)) := by
            intro fuellp50_23
            induction fuellp50_23 with
            | zero => intros; omega
            | succ fuellp50_23 ihlp50_23 =>
              intro w24 nx_50 c4 hR25 hF26 gx27 hv50_0 hv50_1 hf28
              obtain ⟨h19_29, h20_29, h21_29, h22_29, hb_29, hbl_29, hb3_29⟩ := hR25
              refine J_iload (pc := 50) dX8_power_50 rfl ?_
              refine J_aload_n (pc := 52) dX8_power_52 rfl rfl rfl ?_
              refine J_get (pc := 53) (k := 0) dX8_power_53 kC9 (by decide) ff_X8_7 h19_29 rfl ?_
              refine J_icmp_geN (pc := 56) (tgt := 126) dX8_power_56 (by decide) (by omega) (by omega) (fun ht30 => ?_) (fun hf31 => ?_)
              · have hPx := (it_Pn (hy0 q1 (by omega)) T).congr (g := nx_50) (fun p hp => hv50_0 p (by omega))
                refine J_aload_n (pc := 126) dX8_power_126 rfl rfl rfl ?_
                refine J_iload_n (pc := 127) dX8_power_127 rfl rfl ?_
                refine J_aload_n (pc := 128) dX8_power_128 rfl rfl rfl ?_
                refine J_get (pc := 129) (k := 3) dX8_power_129 kC9 (by decide) ff_X8_20 h19_29 rfl ?_
                refine J_callV0 (pc := 132) (M := mX8_power) (as := [.int (nI q9), .ref 22]) dX8_power_132 fw_X8_get fl_X8_111 fm_X8_get fe_X8_get h19_29 (by decide) rfl rfl rfl (c_X8_get_at22 hs (d := d - 1) (by omega) (w := w24) (n := n) (mv := mv) (rw := rw) (nx := nx_50) (b := b) (bt := bt) (kn := kn) (en := en) (dn := dn) (rf := rf) (kk := kk) (th := nI (tW 0 0)) ⟨h19_29, h20_29, h21_29, h22_29, hb_29, hbl_29, hb3_29⟩ hn1 hn2 gm gr gx27 q9 (by first | assumption | omega) (kc := 0) (ks := 0)) (by omega) (st := []) (Nat.le_of_ble_eq_true rfl) rfl (kr_I fun v32 w32 hv32 hw32 => ?_) kx_I
                obtain ⟨mv32, hR32, hFc32, hgmv32, hp32_0⟩ := hw32
                obtain ⟨h19_32, h20_32, h21_32, h22_32, hbb_32, hbl_32, hb3_32⟩ := hR32
                have hF32 := hF26.tr hFc32
                subst hv32
                exact J_iret (pc := 135) dX8_power_135 rfl ⟨trivial, ⟨mv32, nx_50, (-1), (dn + nI 1), nI (tW 0 0), ⟨h19_32, h20_32, h21_32, h22_32, hbb_32, hbl_32, hb3_32⟩, hF32, hgmv32, gx27, (by first | assumption | exact PM_st hn2 (by assumption) (by assumption) (by assumption)), (by first | assumption | exact Or.inl rfl)⟩⟩
              · refine J_aload_n (pc := 59) dX8_power_59 rfl rfl rfl ?_
                refine J_aload_n (pc := 60) dX8_power_60 rfl rfl rfl ?_
                refine J_get (pc := 61) (k := 1) dX8_power_61 kC9 (by decide) ff_X8_13 h19_29 rfl ?_
                refine J_iload_n (pc := 64) dX8_power_64 rfl rfl ?_
                refine J_bipush (pc := 65) (v := nI 7) dX8_power_65 (by decide) ?_
                refine J_imulN (pc := 67) dX8_power_67 ?_
                refine J_iload (pc := 68) dX8_power_68 rfl ?_
                refine J_callV0 (pc := 70) (M := mX8_power) (as := [.ref 20, .int (nI (q1 * 7)), .int (nI c4)]) dX8_power_70 fw_X8_ringFrom fl_X8_61 fm_X8_ringFrom fe_X8_ringFrom h19_29 (by decide) rfl rfl rfl (c_X8_ringFrom_at20 hs (d := d - 1) (by omega) (w := w24) (n := n) (mv := mv) (rw := rw) (nx := nx_50) (b := b) (bt := bt) (kn := kn) (en := en) (dn := dn) (rf := rf) (kk := kk) (th := nI (tW 0 0)) ⟨h19_29, h20_29, h21_29, h22_29, hb_29, hbl_29, hb3_29⟩ hn1 hn2 gm gr gx27 (q1 * 7) c4 (by first | assumption | omega) (by exact hy0 q1 (by omega)) (by first | assumption | omega) (kc := 0) (ks := 0)) (by omega) (st := []) (Nat.le_of_ble_eq_true rfl) rfl (kr_P fun v33 hv33 => ?_) kx_I
                obtain ⟨k33, rfl, hk33⟩ := hv33
                have hK3 := hk33.2.2.1
                refine J_istore (pc := 73) dX8_power_73 (by decide) rfl ?_
                show J X mX8_power d kc ks 75 [some (.ref 19), some (.int (nI q1)), some (.int c), some (.int (nI q9)), some (.int (nI c4)), some (.int (nI k33)), none, none] [] w24 _
                refine J_iload (pc := 75) dX8_power_75 rfl ?_
                refine J_istore (pc := 77) dX8_power_77 (by decide) rfl ?_
                show J X mX8_power d kc ks 79 [some (.ref 19), some (.int (nI q1)), some (.int c), some (.int (nI q9)), some (.int (nI c4)), some (.int (nI k33)), some (.int (nI c4)), none] [] w24 _
                refine J_iload_n (pc := 79) dX8_power_79 rfl rfl ?_
                refine J_iload (pc := 80) dX8_power_80 rfl ?_
                refine J_irem (pc := 82) dX8_power_82 (nI_ne0 (by omega) (by omega)) ?_
                refine J_iload (pc := 83) dX8_power_83 rfl ?_
                refine J_iadd (pc := 85) dX8_power_85 ?_
                refine J_iload (pc := 86) dX8_power_86 rfl ?_
                refine J_irem (pc := 88) dX8_power_88 (nI_ne0 (by omega) (by omega)) ?_
                rw [hT k33 (by omega) (by omega)]
                have hm89 := Nat.mod_lt T (show 0 < k33 by omega)
                refine J_istore (pc := 89) dX8_power_89 (by decide) rfl ?_
                show J X mX8_power d kc ks 91 [some (.ref 19), some (.int (nI q1)), some (.int c), some (.int (nI q9)), some (.int (nI c4)), some (.int (nI k33)), some (.int (nI c4)), some (.int (nI (T % k33)))] [] w24 _
                have lp91_34 : ∀ (fuel : Nat) (y6 : Nat) (c7 : Nat), (y6 = it (fun p => mv (q1 * 7 + p)) (T % k33 - c7) c4) → (c7 ≤ T % k33) → (y6 < n) → (c7 < fuel) → J X mX8_power d kc ks 91 [some (.ref 19), some (.int (nI q1)), some (.int c), some (.int (nI q9)), some (.int (nI c4)), some (.int (nI k33)), some (.int (nI y6)), some (.int (nI c7))] [] w24 (pI (fun _ => True) (fun w' => ∃ (mv' : Nat → Nat), ∃ (nx' : Nat → Nat), ∃ (kn' : Int32), ∃ (dn' : Int32), ∃ (th' : Int32), RM n mv' rw nx' b bt kn' en dn' rf kk th' w' ∧ FR b b w w' ∧ (∀ i, mv' i < 7) ∧ (∀ i, nx' i < 7) ∧ PM n mv' ∧ KB n kn' bt)) := by
                  intro fuellp91_34
                  induction fuellp91_34 with
                  | zero => intros; omega
                  | succ fuellp91_34 ihlp91_34 =>
                    intro y6 c7 hv91_0 hv91_1 hv91_2 hf35
                    refine J_iload (pc := 91) dX8_power_91 rfl ?_
                    refine J_if_leN (pc := 93) (tgt := 111) dX8_power_93 (by decide) (by omega) (fun ht36 => ?_) (fun hf37 => ?_)
                    · have hm111 : y6 = it (fun p => mv (q1 * 7 + p)) T c4 := by rw [hv91_0, show c7 = 0 by omega, Nat.sub_zero]; exact it_mod hK3 T
                      refine J_aload_n (pc := 111) dX8_power_111 rfl rfl rfl ?_
                      refine J_get (pc := 112) (k := 3) dX8_power_112 kC9 (by decide) ff_X8_20 h19_29 rfl ?_
                      refine J_iload (pc := 115) dX8_power_115 rfl ?_
                      refine J_iload (pc := 117) dX8_power_117 rfl ?_
                      refine J_iastF (pc := 119) dX8_power_119 h22_29 (by omega) (by decide) (fun w38 hln38 hc38 hne38 => ?_)
                      have hg38 : ∀ i, (up nx_50 c4 y6) i < 7 := up_b gx27 (by omega)
                      have h19_38 := (hne38 19 (by omega)).trans h19_29
                      have h20_38 := (hne38 20 (by omega)).trans h20_29
                      have h21_38 := (hne38 21 (by omega)).trans h21_29
                      have hb_38 := (hne38 _ (by omega)).trans hb_29
                      have hF38 := hF26.st hln38 hne38 (Or.inl (by decide))
                      refine J_iincN (pc := 120) (b := 1) dX8_power_120 rfl (by decide) (by decide) rfl ?_
                      show J X mX8_power d kc ks 123 [some (.ref 19), some (.int (nI q1)), some (.int c), some (.int (nI q9)), some (.int (nI (c4 + 1))), some (.int (nI k33)), some (.int (nI y6)), some (.int (nI c7))] [] w38 _
                      refine J_goto (pc := 123) (tgt := 50) dX8_power_123 (by decide) ?_
                      exact J_sub (L' := [some (.ref 19), some (.int (nI q1)), some (.int c), some (.int (nI q9)), some (.int (nI (c4 + 1))), none, none, none]) ⟨rfl, ⟨rfl, ⟨rfl, ⟨rfl, ⟨rfl, trivial⟩⟩⟩⟩⟩ (ihlp50_23 w38 (up nx_50 c4 y6) (c4 + 1) ⟨h19_38, h20_38, h21_38, hc38, hb_38, hbl_29, hb3_29⟩ hF38 hg38 (by intro p hp; by_cases e : p = c4; (subst e; rw [up_s]; exact hm111); (rw [up_n e]; exact hv50_0 p (by omega))) (by first | assumption | omega) (by omega))
                    · refine J_aload_n (pc := 96) dX8_power_96 rfl rfl rfl ?_
                      refine J_iload_n (pc := 97) dX8_power_97 rfl rfl ?_
                      refine J_iload (pc := 98) dX8_power_98 rfl ?_
                      refine J_callV0 (pc := 100) (M := mX8_power) (as := [.int (nI q1), .int (nI y6)]) dX8_power_100 fw_X8_at fl_X8_82 fm_X8_at fe_X8_at h19_29 (by decide) rfl rfl rfl (c_X8_at hs (d := d - 1) (by omega) (w := w24) (n := n) (mv := mv) (rw := rw) (nx := nx_50) (b := b) (bt := bt) (kn := kn) (en := en) (dn := dn) (rf := rf) (kk := kk) (th := nI (tW 0 0)) ⟨h19_29, h20_29, h21_29, h22_29, hb_29, hbl_29, hb3_29⟩ hn1 hn2 gm gr gx27 q1 y6 (by first | assumption | omega) (by first | assumption | omega) (kc := 0) (ks := 0)) (by omega) (st := []) (Nat.le_of_ble_eq_true rfl) rfl (kr_P fun v39 hv39 => ?_) kx_I
                      subst hv39
                      have hq40 := gm (q1 * 7 + y6)
                      refine J_istore (pc := 103) dX8_power_103 (by decide) rfl ?_
                      show J X mX8_power d kc ks 105 [some (.ref 19), some (.int (nI q1)), some (.int c), some (.int (nI q9)), some (.int (nI c4)), some (.int (nI k33)), some (.int (nI (mv (q1 * 7 + y6)))), some (.int (nI c7))] [] w24 _
                      refine J_iincM (pc := 105) dX8_power_105 rfl (by omega) (by decide) rfl ?_
                      show J X mX8_power d kc ks 108 [some (.ref 19), some (.int (nI q1)), some (.int c), some (.int (nI q9)), some (.int (nI c4)), some (.int (nI k33)), some (.int (nI (mv (q1 * 7 + y6)))), some (.int (nI (c7 - 1)))] [] w24 _
                      refine J_goto (pc := 108) (tgt := 91) dX8_power_108 (by decide) ?_
                      exact J_sub (L' := [some (.ref 19), some (.int (nI q1)), some (.int c), some (.int (nI q9)), some (.int (nI c4)), some (.int (nI k33)), some (.int (nI (mv (q1 * 7 + y6)))), some (.int (nI (c7 - 1)))]) ⟨rfl, ⟨rfl, ⟨rfl, ⟨rfl, ⟨rfl, ⟨rfl, ⟨rfl, ⟨rfl, trivial⟩⟩⟩⟩⟩⟩⟩⟩ (ihlp91_34 (mv (q1 * 7 + y6)) (c7 - 1) (by rw [hv91_0, show T % k33 - (c7 - 1) = (T % k33 - c7) + 1 by omega]; rfl) (by first | assumption | omega) (by exact (hy0 q1 (by omega)).1 y6 hv91_2) (by omega))
                exact J_sub (L' := [some (.ref 19), some (.int (nI q1)), some (.int c), some (.int (nI q9)), some (.int (nI c4)), some (.int (nI k33)), some (.int (nI c4)), some (.int (nI (T % k33)))]) ⟨rfl, ⟨rfl, ⟨rfl, ⟨rfl, ⟨rfl, ⟨rfl, ⟨rfl, ⟨rfl, trivial⟩⟩⟩⟩⟩⟩⟩⟩ (lp91_34 _ c4 (T % k33) (by rw [Nat.sub_self]; rfl) (by first | assumption | omega) (by assumption) (Nat.lt_succ_self _))
          exact J_sub (L' := [some (.ref 19), some (.int (nI q1)), some (.int c), some (.int (nI q9)), some (.int (nI 0)), none, none, none]) ⟨rfl, ⟨rfl, ⟨rfl, ⟨rfl, ⟨rfl, trivial⟩⟩⟩⟩⟩ (lp50_23 _ w22 nx 0 ⟨h19_22, h20_22, h21_22, h22_22, hbb_22, hbl_22, hb3_22⟩ hF22 gx (by intro p hp; omega) (by first | assumption | omega) (Nat.lt_succ_self _))
        · refine J_iconst (pc := 34) (v := nI 1) dX8_power_34 (by decide) ?_
          refine J_goto (pc := 35) (tgt := 39) dX8_power_35 (by decide) ?_
          refine J_callV0 (pc := 39) (M := mX8_power) (as := [.int (nI 0), .int (nI 1)]) dX8_power_39 fw_X8_isThrown fl_X8_35 fm_X8_isThrown fe_X8_isThrown h19 (by decide) rfl rfl rfl (c_X8_isThrown hs (d := d - 1) (by omega) (w := w) (n := n) (mv := mv) (rw := rw) (nx := nx) (b := b) (bt := bt) (kn := kn) (en := en) (dn := dn) (rf := rf) (kk := kk) (th := th) ⟨h19, h20, h21, h22, hbb, hbl, hb3⟩ hn1 hn2 gm gr gx 0 1 (by first | assumption | omega) (by first | assumption | omega) (kc := 0) (ks := 0)) (by omega) (st := []) (Nat.le_of_ble_eq_true rfl) rfl (kr_I fun v41 w41 hv41 hw41 => ?_) kx_I
          obtain ⟨hR41, hFc41⟩ := hw41
          obtain ⟨h19_41, h20_41, h21_41, h22_41, hbb_41, hbl_41, hb3_41⟩ := hR41
          have hF41 := hF.tr hFc41
          subst hv41
          show J X mX8_power d kc ks 42 [some (.ref 19), some (.int (nI q1)), some (.int c), some (.int (nI q9)), none, none, none, none] [.int (nI 1)] w41 _
          refine J_if_eqN (pc := 42) (tgt := 47) dX8_power_42 (by decide) (by decide) (fun h => absurd h (by decide)) (fun _ => ?_)
          refine J_iconst (pc := 45) (v := nI 0) dX8_power_45 (by decide) ?_
          exact J_iret (pc := 46) dX8_power_46 rfl ⟨trivial, ⟨mv, nx, kn, dn, nI (tW 0 1), ⟨h19_41, h20_41, h21_41, h22_41, hbb_41, hbl_41, hb3_41⟩, hF41, gm, gx, (by first | assumption | exact PM_st hn2 (by assumption) (by assumption) (by assumption)), (by first | assumption | exact Or.inl rfl)⟩⟩
