/-! contracts of the reference: rspec4 -/
set_option maxRecDepth 100000 in
set_option maxHeartbeats 40000000 in
theorem c_X8_shares {X : jX} (hs : X.1.stackTraces = false) {d : Nat} (hd : 6 ≤ d) {n : Nat} {mv rw nx : Nat → Nat} {b : Nat} {bt : List Int32} {kn en dn rf kk th : Int32} {w : List jC} (hR : RM n mv rw nx b bt kn en dn rf kk th w) (hn1 : 2 ≤ n) (hn2 : n ≤ 7) (gm : ∀ i, mv i < 7) (gr : ∀ i, rw i < 7) (gx : ∀ i, nx i < 7) (s : Int32) (e : Int32) (hy0 : PM n mv) (hy1 : KX n mv kn bt) {kc ks : Nat} (hkc : 104 ≤ kc) (hks : 16432 ≤ ks) : jMet X mX8_shares d kc ks [.ref 19, .int s, .int e] w (pI (fun _ => True) (fun w' => ∃ (rw' : Nat → Nat), ∃ (nx' : Nat → Nat), ∃ (b' : Nat), ∃ (bt' : List Int32), ∃ (kn' : Int32), ∃ (en' : Int32), ∃ (th' : Int32), RM n mv rw' nx' b' bt' kn' en' dn rf kk th' w' ∧ FR b b' w w' ∧ (∀ i, rw' i < 7) ∧ (∀ i, nx' i < 7) ∧ KX n mv kn' bt')) := by
  refine jMet_of hs (by decide +kernel) (Nat.le_of_ble_eq_true rfl) (L := [some (.ref 19), some (.int s), some (.int e), none]) rfl ?_
  have hdm : 5 ≤ d - 1 := by omega
  have hdp : d - 1 + 1 ≤ d := by omega
  have hfc := fc_7 hn2
  have hfp := fc_pos n
  obtain ⟨h19, h20, h21, h22, hbb, hbl, hb3⟩ := hR
  have hF : FR b b w w := FR.rf
  refine J_aload_n (pc := 0) dX8_shares_0 rfl rfl rfl ?_
  refine J_iload_n (pc := 1) dX8_shares_1 rfl rfl ?_
  refine J_callS0 (pc := 2) (M := mX8_shares) (as := [.int s]) dX8_shares_2 fw_X8_isSet fl_X8_134 fs_X8_isSet rfl (c_X8_isSet hs (d := d - 1) (Nat.le_trans (by decide) hdm) (w := w) s (kc := 0) (ks := 0)) hdp (st := [.ref 19]) (Nat.le_of_ble_eq_true rfl) rfl (kr_P fun v1 hv1 => ?_) kx_I
  rcases hv1 with ⟨rfl, hk1_0⟩ | ⟨q1, rfl, hk1_0, rfl⟩
  · refine J_if_eqN (pc := 5) (tgt := 15) dX8_shares_5 (by decide) (by decide) (fun _ => ?_) (fun h => absurd h (by decide))
    refine J_iconst (pc := 15) (v := nI 1) dX8_shares_15 (by decide) ?_
    refine J_goto (pc := 16) (tgt := 20) dX8_shares_16 (by decide) ?_
    refine J_callV0 (pc := 20) (M := mX8_shares) (as := [.int (nI 1)]) dX8_shares_20 fw_X8_isThrown_ fl_X8_105 fm_X8_isThrown_ fe_X8_isThrown_ h19 (by decide) rfl rfl rfl (c_X8_isThrown_ hs (d := d - 1) (Nat.le_trans (by decide) hdm) (w := w) (n := n) (mv := mv) (rw := rw) (nx := nx) (b := b) (bt := bt) (kn := kn) (en := en) (dn := dn) (rf := rf) (kk := kk) (th := th) ⟨h19, h20, h21, h22, hbb, hbl, hb3⟩ hn1 hn2 gm gr gx 1 (by first | assumption | omega) (kc := 0) (ks := 0)) hdp (st := []) (Nat.le_of_ble_eq_true rfl) rfl (kr_I fun v2 w2 hv2 hw2 => ?_) kx_I
    obtain ⟨hR2, hFc2⟩ := hw2
    obtain ⟨h19_2, h20_2, h21_2, h22_2, hbb_2, hbl_2, hb3_2⟩ := hR2
    have hF2 := hF.tr hFc2
    subst hv2
    show J X mX8_shares d kc ks 23 [some (.ref 19), some (.int s), some (.int e), none] [.int (nI 1)] w2 _
    refine J_if_eqN (pc := 23) (tgt := 28) dX8_shares_23 (by decide) (by decide) (fun h => absurd h (by decide)) (fun _ => ?_)
    refine J_iconst (pc := 26) (v := nI 0) dX8_shares_26 (by decide) ?_
    exact J_iret (pc := 27) dX8_shares_27 rfl ⟨trivial, ⟨rw, nx, b, bt, kn, en, nI (tW 1 0), ⟨h19_2, h20_2, h21_2, h22_2, hbb_2, hbl_2, hb3_2⟩, hF2, gr, gx, (by first | assumption | exact KX_i (by assumption) (by omega) (by first | rfl | assumption))⟩⟩
  · refine J_if_eqN (pc := 5) (tgt := 15) dX8_shares_5 (by decide) (by decide) (fun h => absurd h (by decide)) (fun _ => ?_)
    refine J_iload_n (pc := 8) dX8_shares_8 rfl rfl ?_
    refine J_callS0 (pc := 9) (M := mX8_shares) (as := [.int e]) dX8_shares_9 fw_X8_isSet fl_X8_134 fs_X8_isSet rfl (c_X8_isSet hs (d := d - 1) (Nat.le_trans (by decide) hdm) (w := w) e (kc := 0) (ks := 0)) hdp (st := [.ref 19]) (Nat.le_of_ble_eq_true rfl) rfl (kr_P fun v3 hv3 => ?_) kx_I
    rcases hv3 with ⟨rfl, hk3_0⟩ | ⟨q3, rfl, hk3_0, rfl⟩
    · refine J_if_neN (pc := 12) (tgt := 19) dX8_shares_12 (by decide) (by decide) (fun h => absurd h (by decide)) (fun _ => ?_)
      refine J_iconst (pc := 15) (v := nI 1) dX8_shares_15 (by decide) ?_
      refine J_goto (pc := 16) (tgt := 20) dX8_shares_16 (by decide) ?_
      refine J_callV0 (pc := 20) (M := mX8_shares) (as := [.int (nI 1)]) dX8_shares_20 fw_X8_isThrown_ fl_X8_105 fm_X8_isThrown_ fe_X8_isThrown_ h19 (by decide) rfl rfl rfl (c_X8_isThrown_ hs (d := d - 1) (Nat.le_trans (by decide) hdm) (w := w) (n := n) (mv := mv) (rw := rw) (nx := nx) (b := b) (bt := bt) (kn := kn) (en := en) (dn := dn) (rf := rf) (kk := kk) (th := th) ⟨h19, h20, h21, h22, hbb, hbl, hb3⟩ hn1 hn2 gm gr gx 1 (by first | assumption | omega) (kc := 0) (ks := 0)) hdp (st := []) (Nat.le_of_ble_eq_true rfl) rfl (kr_I fun v4 w4 hv4 hw4 => ?_) kx_I
      obtain ⟨hR4, hFc4⟩ := hw4
      obtain ⟨h19_4, h20_4, h21_4, h22_4, hbb_4, hbl_4, hb3_4⟩ := hR4
      have hF4 := hF.tr hFc4
      subst hv4
      show J X mX8_shares d kc ks 23 [some (.ref 19), some (.int (nI q1)), some (.int e), none] [.int (nI 1)] w4 _
      refine J_if_eqN (pc := 23) (tgt := 28) dX8_shares_23 (by decide) (by decide) (fun h => absurd h (by decide)) (fun _ => ?_)
      refine J_iconst (pc := 26) (v := nI 0) dX8_shares_26 (by decide) ?_
      exact J_iret (pc := 27) dX8_shares_27 rfl ⟨trivial, ⟨rw, nx, b, bt, kn, en, nI (tW 1 0), ⟨h19_4, h20_4, h21_4, h22_4, hbb_4, hbl_4, hb3_4⟩, hF4, gr, gx, (by first | assumption | exact KX_i (by assumption) (by omega) (by first | rfl | assumption))⟩⟩
    · refine J_if_neN (pc := 12) (tgt := 19) dX8_shares_12 (by decide) (by decide) (fun _ => ?_) (fun h => absurd h (by decide))
      refine J_iconst (pc := 19) (v := nI 0) dX8_shares_19 (by decide) ?_
      refine J_callV0 (pc := 20) (M := mX8_shares) (as := [.int (nI 0)]) dX8_shares_20 fw_X8_isThrown_ fl_X8_105 fm_X8_isThrown_ fe_X8_isThrown_ h19 (by decide) rfl rfl rfl (c_X8_isThrown_ hs (d := d - 1) (Nat.le_trans (by decide) hdm) (w := w) (n := n) (mv := mv) (rw := rw) (nx := nx) (b := b) (bt := bt) (kn := kn) (en := en) (dn := dn) (rf := rf) (kk := kk) (th := th) ⟨h19, h20, h21, h22, hbb, hbl, hb3⟩ hn1 hn2 gm gr gx 0 (by first | assumption | omega) (kc := 0) (ks := 0)) hdp (st := []) (Nat.le_of_ble_eq_true rfl) rfl (kr_I fun v5 w5 hv5 hw5 => ?_) kx_I
      obtain ⟨hR5, hFc5⟩ := hw5
      obtain ⟨h19_5, h20_5, h21_5, h22_5, hbb_5, hbl_5, hb3_5⟩ := hR5
      have hF5 := hF.tr hFc5
      subst hv5
      show J X mX8_shares d kc ks 23 [some (.ref 19), some (.int (nI q1)), some (.int (nI q3)), none] [.int (nI 0)] w5 _
      refine J_if_eqN (pc := 23) (tgt := 28) dX8_shares_23 (by decide) (by decide) (fun _ => ?_) (fun h => absurd h (by decide))
      refine J_aload_n (pc := 28) dX8_shares_28 rfl rfl rfl ?_
      refine J_iload_n (pc := 29) dX8_shares_29 rfl rfl ?_
      refine J_iload_n (pc := 30) dX8_shares_30 rfl rfl ?_
      refine J_callV (pc := 31) (M := mX8_shares) (as := [.int (nI q1), .int (nI q3)]) dX8_shares_31 fw_X8_isPartNow fl_X8_209 fm_X8_isPartNow fe_X8_isPartNow h19_5 (by decide) rfl rfl rfl (c_X8_isPartNow hs (d := d - 1) (Nat.le_trans (by decide) hdm) (w := w5) (n := n) (mv := mv) (rw := rw) (nx := nx) (b := b) (bt := bt) (kn := kn) (en := en) (dn := dn) (rf := rf) (kk := kk) (th := nI (tW 0 0)) ⟨h19_5, h20_5, h21_5, h22_5, hbb_5, hbl_5, hb3_5⟩ hn1 hn2 gm gr gx q1 q3 (by first | assumption | omega) (by first | assumption | omega) (by first | assumption | omega) (by first | assumption | omega) (kc := 78) (ks := 12324) (Nat.le_refl _) (Nat.le_refl _)) hdp (by omega) (by omega) (st := []) (Nat.le_of_ble_eq_true rfl) rfl (kr_I fun v6 w6 hv6 hw6 => ?_) kx_I
      obtain ⟨rw6, nx6, b6, bt6, kn6, en6, hR6, hFc6, hgrw6, hgnx6, hp6_0⟩ := hw6
      obtain ⟨h19_6, h20_6, h21_6, h22_6, hbb_6, hbl_6, hb3_6⟩ := hR6
      have qd6 := hFc6.2.1
      have hF6 := hF5.tr hFc6
      obtain ⟨k6, rfl, hk6⟩ := hv6
      refine J_if_neN (pc := 34) (tgt := 40) dX8_shares_34 (by decide) (by omega) (fun ht7 => ?_) (fun hf8 => ?_)
      · refine J_aload_n (pc := 40) dX8_shares_40 rfl rfl rfl ?_
        refine J_iload_n (pc := 41) dX8_shares_41 rfl rfl ?_
        refine J_callV (pc := 42) (M := mX8_shares) (as := [.int (nI q3)]) dX8_shares_42 fw_X8_sizeOf fl_X8_178 fm_X8_sizeOf fe_X8_sizeOf h19_6 (by decide) rfl rfl rfl (c_X8_sizeOf hs (d := d - 1) (Nat.le_trans (by decide) hdm) (w := w6) (n := n) (mv := mv) (rw := rw6) (nx := nx6) (b := b6) (bt := bt6) (kn := kn6) (en := en6) (dn := dn) (rf := rf) (kk := kk) (th := nI (tW 0 0)) ⟨h19_6, h20_6, h21_6, h22_6, hbb_6, hbl_6, hb3_6⟩ hn1 hn2 gm hgrw6 hgnx6 q3 (by first | assumption | omega) (by first | assumption | omega) (by first | assumption | omega) (kc := 13) (ks := 2054) (Nat.le_refl _) (Nat.le_refl _)) hdp (by omega) (by omega) (st := []) (Nat.le_of_ble_eq_true rfl) rfl (kr_I fun v9 w9 hv9 hw9 => ?_) kx_I
        obtain ⟨rw9, nx9, b9, bt9, kn9, en9, hR9, hFc9, hgrw9, hgnx9, hp9_0, hp9_1⟩ := hw9
        obtain ⟨h19_9, h20_9, h21_9, h22_9, hbb_9, hbl_9, hb3_9⟩ := hR9
        have qd9 := hFc9.2.1
        have hF9 := hF6.tr hFc9
        obtain ⟨k9, rfl, hk9⟩ := hv9
        refine J_istore_n (pc := 45) dX8_shares_45 rfl (by decide) rfl ?_
        show J X mX8_shares d (kc - 78 - 13) (ks - 12324 - 2054) 46 [some (.ref 19), some (.int (nI q1)), some (.int (nI q3)), some (.int (nI k9))] [] w9 _
        refine J_iload_n (pc := 46) dX8_shares_46 rfl rfl ?_
        refine J_aload_n (pc := 47) dX8_shares_47 rfl rfl rfl ?_
        refine J_iload_n (pc := 48) dX8_shares_48 rfl rfl ?_
        refine J_callV (pc := 49) (M := mX8_shares) (as := [.int (nI q1)]) dX8_shares_49 fw_X8_sizeOf fl_X8_178 fm_X8_sizeOf fe_X8_sizeOf h19_9 (by decide) rfl rfl rfl (c_X8_sizeOf hs (d := d - 1) (Nat.le_trans (by decide) hdm) (w := w9) (n := n) (mv := mv) (rw := rw9) (nx := nx9) (b := b9) (bt := bt9) (kn := kn9) (en := en9) (dn := dn) (rf := rf) (kk := kk) (th := nI (tW 0 0)) ⟨h19_9, h20_9, h21_9, h22_9, hbb_9, hbl_9, hb3_9⟩ hn1 hn2 gm hgrw9 hgnx9 q1 (by first | assumption | omega) (by first | assumption | omega) (by exact KX_i (by assumption) (by omega) (by first | rfl | assumption)) (kc := 13) (ks := 2054) (Nat.le_refl _) (Nat.le_refl _)) hdp (by omega) (by omega) (st := [.int (nI k9)]) (Nat.le_of_ble_eq_true rfl) rfl (kr_I fun v10 w10 hv10 hw10 => ?_) kx_I
        obtain ⟨rw10, nx10, b10, bt10, kn10, en10, hR10, hFc10, hgrw10, hgnx10, hp10_0, hp10_1⟩ := hw10
        obtain ⟨h19_10, h20_10, h21_10, h22_10, hbb_10, hbl_10, hb3_10⟩ := hR10
        have qd10 := hFc10.2.1
        have hF10 := hF9.tr hFc10
        obtain ⟨k10, rfl, hk10⟩ := hv10
        have hm11 := Nat.mod_lt k9 (show 0 < k10 by omega)
        have hm12 := Nat.div_le_self k9 k10
        refine J_idivN (pc := 52) dX8_shares_52 (by omega) (by omega) (by omega) ?_
        exact J_iret (pc := 53) dX8_shares_53 rfl ⟨trivial, ⟨rw10, nx10, b10, bt10, kn10, en10, nI (tW 0 0), ⟨h19_10, h20_10, h21_10, h22_10, hbb_10, hbl_10, hb3_10⟩, hF10, hgrw10, hgnx10, (by first | assumption | exact KX_i (by assumption) (by omega) (by first | rfl | assumption))⟩⟩
      · refine J_bipush (pc := 37) (v := (-9)) dX8_shares_37 (by decide) ?_
        exact J_iret (pc := 39) dX8_shares_39 rfl ⟨trivial, ⟨rw6, nx6, b6, bt6, kn6, en6, nI (tW 0 0), ⟨h19_6, h20_6, h21_6, h22_6, hbb_6, hbl_6, hb3_6⟩, hF6, hgrw6, hgnx6, (by first | assumption | exact KX_i (by assumption) (by omega) (by first | rfl | assumption))⟩⟩
