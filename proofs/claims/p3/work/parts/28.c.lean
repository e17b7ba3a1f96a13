/-! nth of the reference, told exactly -/
set_option maxRecDepth 100000 in
set_option maxHeartbeats 40000000 in
theorem c_X8_nth_ate {X : jX} (hs : X.1.stackTraces = false) {d : Nat} (hd : 4 ≤ d) {n : Nat} {mv rw nx : Nat → Nat} {b : Nat} {bt : List Int32} {kn en dn rf kk th : Int32} {w : List jC} (hR : RM n mv rw nx b bt kn en dn rf kk th w) (hn1 : 2 ≤ n) (hn2 : n ≤ 7) (gm : ∀ i, mv i < 7) (gr : ∀ i, rw i < 7) (gx : ∀ i, nx i < 7) (s : Int32) (a : Int32) (e : Int32) (c : Int32) (hy0 : PM n mv) (hy1 : KX n mv kn bt) {kc ks : Nat} (hkc : 15 ≤ kc) (hks : 2068 ≤ ks) : jMet X mX8_nth d kc ks [.ref 19, .int s, .int a, .int e, .int c] w (pJ (fun v w' => ∃ (mv' : Nat → Nat), ∃ (rw' : Nat → Nat), ∃ (nx' : Nat → Nat), ∃ (b' : Nat), ∃ (bt' : List Int32), ∃ (kn' : Int32), ∃ (en' : Int32), ∃ (dn' : Int32), ∃ (rf' : Int32), ∃ (th' : Int32), RM n mv' rw' nx' b' bt' kn' en' dn' rf' kk th' w' ∧ FR b b' w w' ∧ (∀ i, mv' i < 7) ∧ (∀ i, rw' i < 7) ∧ (∀ i, nx' i < 7) ∧ PM n mv' ∧ ((th' = nI 1 ∧ ¬ (isN a 6 ∧ isN c 6) ∧ mv' = mv ∧ KX n mv kn' bt' ∧ dn' = dn ∧ rf' = rf) ∨ (th' = nI 2 ∧ (isN a 6 ∧ isN c 6) ∧ ¬ (isN s 64 ∧ 0 ≤ e) ∧ mv' = mv ∧ KX n mv kn' bt' ∧ dn' = dn ∧ rf' = rf) ∨ (th' = nI 0 ∧ (∃ s1 a1 c1 rk y : Nat, s = nI s1 ∧ a = nI a1 ∧ c = nI c1 ∧ e = nI rk ∧ s1 < 64 ∧ a1 < 6 ∧ c1 < 6 ∧ rk < 2 ^ 31 ∧ rk < cd n (Gg n (gS (mW n mv) s1 6)) ∧ Mv n y ∧ GK n (Gg n (gS (mW n mv) s1 6)) (fun j => mv (a1 * 7 + j)) rk y ∧ ACT n mv c1 (d8 y) mv' ∧ v = nI (nuF (d8 y) 0 n n)) ∧ kn' = (-1) ∧ dn' = (dn + nI 1) ∧ rf' = rf) ∨ (th' = nI 0 ∧ (∃ s1 a1 c1 rk : Nat, s = nI s1 ∧ a = nI a1 ∧ c = nI c1 ∧ e = nI rk ∧ s1 < 64 ∧ a1 < 6 ∧ c1 < 6 ∧ rk < 2 ^ 31 ∧ ¬ rk < cd n (Gg n (gS (mW n mv) s1 6)) ∧ v = (-9)) ∧ mv' = mv ∧ KX n mv kn' bt' ∧ dn' = dn ∧ rf' = (rf + nI 1))))) := by
  refine jMet_of hs (by decide +kernel) (Nat.le_of_ble_eq_true rfl) (L := [some (.ref 19), some (.int s), some (.int a), some (.int e), some (.int c), none, none, none, none, none]) rfl ?_
  have hdm : 3 ≤ d - 1 := by omega
  have hdp : d - 1 + 1 ≤ d := by omega
  have hfc := fc_7 hn2
  have hfp := fc_pos n
  obtain ⟨h19, h20, h21, h22, hbb, hbl, hb3⟩ := hR
  have hF : FR b b w w := FR.rf
  refine J_aload_n (pc := 0) dX8_nth_0 rfl rfl rfl ?_
  refine J_iload_n (pc := 1) dX8_nth_1 rfl rfl ?_
  refine J_callS0 (pc := 2) (M := mX8_nth) (as := [.int a]) dX8_nth_2 fw_X8_isCell fl_X8_108 fs_X8_isCell rfl (c_X8_isCell hs (d := d - 1) (Nat.le_trans (by decide) hdm) (w := w) a (kc := 0) (ks := 0)) hdp (st := [.ref 19]) (Nat.le_of_ble_eq_true rfl) rfl (kr_P fun v1 hv1 => ?_) kx_I
  rcases hv1 with ⟨rfl, hk1_0⟩ | ⟨q1, rfl, hk1_0, rfl⟩
  · refine J_if_eqN (pc := 5) (tgt := 16) dX8_nth_5 (by decide) (by decide) (fun _ => ?_) (fun h => absurd h (by decide))
    refine J_iconst (pc := 16) (v := nI 1) dX8_nth_16 (by decide) ?_
    refine J_goto (pc := 17) (tgt := 21) dX8_nth_17 (by decide) ?_
    refine J_iload_n (pc := 21) dX8_nth_21 rfl rfl ?_
    refine J_callS0 (pc := 22) (M := mX8_nth) (as := [.int s]) dX8_nth_22 fw_X8_isSet fl_X8_134 fs_X8_isSet rfl (c_X8_isSet hs (d := d - 1) (Nat.le_trans (by decide) hdm) (w := w) s (kc := 0) (ks := 0)) hdp (st := [.int (nI 1), .ref 19]) (Nat.le_of_ble_eq_true rfl) rfl (kr_P fun v2 hv2 => ?_) kx_I
    rcases hv2 with ⟨rfl, hk2_0⟩ | ⟨q2, rfl, hk2_0, rfl⟩
    · refine J_if_eqN (pc := 25) (tgt := 32) dX8_nth_25 (by decide) (by decide) (fun _ => ?_) (fun h => absurd h (by decide))
      refine J_iconst (pc := 32) (v := nI 1) dX8_nth_32 (by decide) ?_
      refine J_goto (pc := 33) (tgt := 37) dX8_nth_33 (by decide) ?_
      refine J_callV0 (pc := 37) (M := mX8_nth) (as := [.int (nI 1), .int (nI 1)]) dX8_nth_37 fw_X8_isThrown fl_X8_35 fm_X8_isThrown fe_X8_isThrown h19 (by decide) rfl rfl rfl (c_X8_isThrown hs (d := d - 1) (Nat.le_trans (by decide) hdm) (w := w) (n := n) (mv := mv) (rw := rw) (nx := nx) (b := b) (bt := bt) (kn := kn) (en := en) (dn := dn) (rf := rf) (kk := kk) (th := th) ⟨h19, h20, h21, h22, hbb, hbl, hb3⟩ hn1 hn2 gm gr gx 1 1 (by first | assumption | omega) (by first | assumption | omega) (kc := 0) (ks := 0)) hdp (st := []) (Nat.le_of_ble_eq_true rfl) rfl (kr_I fun v3 w3 hv3 hw3 => ?_) kx_I
      obtain ⟨hR3, hFc3⟩ := hw3
      obtain ⟨h19_3, h20_3, h21_3, h22_3, hbb_3, hbl_3, hb3_3⟩ := hR3
      have hF3 := hF.tr hFc3
      subst hv3
      show J X mX8_nth d kc ks 40 [some (.ref 19), some (.int s), some (.int a), some (.int e), some (.int c), none, none, none, none, none] [.int (nI 1)] w3 _
      refine J_if_eqN (pc := 40) (tgt := 45) dX8_nth_40 (by decide) (by decide) (fun h => absurd h (by decide)) (fun _ => ?_)
      refine J_iconst (pc := 43) (v := nI 0) dX8_nth_43 (by decide) ?_
      exact J_iret (pc := 44) dX8_nth_44 rfl (⟨mv, rw, nx, b, bt, kn, en, dn, rf, nI (tW 1 1), ⟨h19_3, h20_3, h21_3, h22_3, hbb_3, hbl_3, hb3_3⟩, hF3, gm, gr, gx, (by first | assumption | exact PM_st hn2 (by assumption) (by assumption) (by assumption)), (by first | exact Or.inl ⟨rfl, fun g => (by first | exact ne_isN (by assumption) g | exact ne_isN (by assumption) g.1 | exact ne_isN (by assumption) g.2 | exact ne_isN (by assumption) g.2.1 | exact ne_isN (by assumption) g.2.2 | exact ne_isN (by assumption) g.2.2.1 | exact ne_isN (by assumption) g.2.2.2), rfl, by assumption, rfl, rfl⟩ | exact Or.inr (Or.inl ⟨rfl, ⟨isN_of (by first | assumption | omega), isN_of (by first | assumption | omega)⟩, (by first | exact fun g => ne_isN (by assumption) g.1 | exact fun g => absurd (show e < 0 by assumption) (Int32.not_lt.mpr g.2) | exact fun g => absurd g.2 (by assumption)), rfl, by assumption, rfl, rfl⟩) | exact Or.inr (Or.inr (Or.inl ⟨rfl, ⟨_, _, _, _, _, rfl, rfl, rfl, rfl, by omega, by omega, by omega, by omega, (by rw [← BX_cd hn2 hBX]; assumption), hyM, hyG, ACT_of hn2 hgt (fun p hp => hyd p hp), congrArg nI (nu_congr (fun p hp => hyd p hp))⟩, rfl, rfl, rfl⟩)) | exact Or.inr (Or.inr (Or.inr ⟨rfl, ⟨_, _, _, _, rfl, rfl, rfl, rfl, by omega, by omega, by omega, by omega, (by rw [← BX_cd hn2 hBX]; omega), rfl⟩, rfl, Or.inr ⟨_, by omega, by assumption, hBX⟩, rfl, rfl⟩)))⟩)
    · refine J_if_eqN (pc := 25) (tgt := 32) dX8_nth_25 (by decide) (by decide) (fun h => absurd h (by decide)) (fun _ => ?_)
      refine J_iload_n (pc := 28) dX8_nth_28 rfl rfl ?_
      refine J_if_ge (pc := 29) (tgt := 36) dX8_nth_29 (by decide) (fun ht4 => ?_) (fun hf5 => ?_)
      · refine J_iconst (pc := 36) (v := nI 0) dX8_nth_36 (by decide) ?_
        refine J_callV0 (pc := 37) (M := mX8_nth) (as := [.int (nI 1), .int (nI 0)]) dX8_nth_37 fw_X8_isThrown fl_X8_35 fm_X8_isThrown fe_X8_isThrown h19 (by decide) rfl rfl rfl (c_X8_isThrown hs (d := d - 1) (Nat.le_trans (by decide) hdm) (w := w) (n := n) (mv := mv) (rw := rw) (nx := nx) (b := b) (bt := bt) (kn := kn) (en := en) (dn := dn) (rf := rf) (kk := kk) (th := th) ⟨h19, h20, h21, h22, hbb, hbl, hb3⟩ hn1 hn2 gm gr gx 1 0 (by first | assumption | omega) (by first | assumption | omega) (kc := 0) (ks := 0)) hdp (st := []) (Nat.le_of_ble_eq_true rfl) rfl (kr_I fun v6 w6 hv6 hw6 => ?_) kx_I
        obtain ⟨hR6, hFc6⟩ := hw6
        obtain ⟨h19_6, h20_6, h21_6, h22_6, hbb_6, hbl_6, hb3_6⟩ := hR6
        have hF6 := hF.tr hFc6
        subst hv6
        show J X mX8_nth d kc ks 40 [some (.ref 19), some (.int (nI q2)), some (.int a), some (.int e), some (.int c), none, none, none, none, none] [.int (nI 1)] w6 _
        refine J_if_eqN (pc := 40) (tgt := 45) dX8_nth_40 (by decide) (by decide) (fun h => absurd h (by decide)) (fun _ => ?_)
        refine J_iconst (pc := 43) (v := nI 0) dX8_nth_43 (by decide) ?_
        exact J_iret (pc := 44) dX8_nth_44 rfl (⟨mv, rw, nx, b, bt, kn, en, dn, rf, nI (tW 1 0), ⟨h19_6, h20_6, h21_6, h22_6, hbb_6, hbl_6, hb3_6⟩, hF6, gm, gr, gx, (by first | assumption | exact PM_st hn2 (by assumption) (by assumption) (by assumption)), (by first | exact Or.inl ⟨rfl, fun g => (by first | exact ne_isN (by assumption) g | exact ne_isN (by assumption) g.1 | exact ne_isN (by assumption) g.2 | exact ne_isN (by assumption) g.2.1 | exact ne_isN (by assumption) g.2.2 | exact ne_isN (by assumption) g.2.2.1 | exact ne_isN (by assumption) g.2.2.2), rfl, by assumption, rfl, rfl⟩ | exact Or.inr (Or.inl ⟨rfl, ⟨isN_of (by first | assumption | omega), isN_of (by first | assumption | omega)⟩, (by first | exact fun g => ne_isN (by assumption) g.1 | exact fun g => absurd (show e < 0 by assumption) (Int32.not_lt.mpr g.2) | exact fun g => absurd g.2 (by assumption)), rfl, by assumption, rfl, rfl⟩) | exact Or.inr (Or.inr (Or.inl ⟨rfl, ⟨_, _, _, _, _, rfl, rfl, rfl, rfl, by omega, by omega, by omega, by omega, (by rw [← BX_cd hn2 hBX]; assumption), hyM, hyG, ACT_of hn2 hgt (fun p hp => hyd p hp), congrArg nI (nu_congr (fun p hp => hyd p hp))⟩, rfl, rfl, rfl⟩)) | exact Or.inr (Or.inr (Or.inr ⟨rfl, ⟨_, _, _, _, rfl, rfl, rfl, rfl, by omega, by omega, by omega, by omega, (by rw [← BX_cd hn2 hBX]; omega), rfl⟩, rfl, Or.inr ⟨_, by omega, by assumption, hBX⟩, rfl, rfl⟩)))⟩)
      · refine J_iconst (pc := 32) (v := nI 1) dX8_nth_32 (by decide) ?_
        refine J_goto (pc := 33) (tgt := 37) dX8_nth_33 (by decide) ?_
        refine J_callV0 (pc := 37) (M := mX8_nth) (as := [.int (nI 1), .int (nI 1)]) dX8_nth_37 fw_X8_isThrown fl_X8_35 fm_X8_isThrown fe_X8_isThrown h19 (by decide) rfl rfl rfl (c_X8_isThrown hs (d := d - 1) (Nat.le_trans (by decide) hdm) (w := w) (n := n) (mv := mv) (rw := rw) (nx := nx) (b := b) (bt := bt) (kn := kn) (en := en) (dn := dn) (rf := rf) (kk := kk) (th := th) ⟨h19, h20, h21, h22, hbb, hbl, hb3⟩ hn1 hn2 gm gr gx 1 1 (by first | assumption | omega) (by first | assumption | omega) (kc := 0) (ks := 0)) hdp (st := []) (Nat.le_of_ble_eq_true rfl) rfl (kr_I fun v7 w7 hv7 hw7 => ?_) kx_I
        obtain ⟨hR7, hFc7⟩ := hw7
        obtain ⟨h19_7, h20_7, h21_7, h22_7, hbb_7, hbl_7, hb3_7⟩ := hR7
        have hF7 := hF.tr hFc7
        subst hv7
        show J X mX8_nth d kc ks 40 [some (.ref 19), some (.int (nI q2)), some (.int a), some (.int e), some (.int c), none, none, none, none, none] [.int (nI 1)] w7 _
        refine J_if_eqN (pc := 40) (tgt := 45) dX8_nth_40 (by decide) (by decide) (fun h => absurd h (by decide)) (fun _ => ?_)
        refine J_iconst (pc := 43) (v := nI 0) dX8_nth_43 (by decide) ?_
        exact J_iret (pc := 44) dX8_nth_44 rfl (⟨mv, rw, nx, b, bt, kn, en, dn, rf, nI (tW 1 1), ⟨h19_7, h20_7, h21_7, h22_7, hbb_7, hbl_7, hb3_7⟩, hF7, gm, gr, gx, (by first | assumption | exact PM_st hn2 (by assumption) (by assumption) (by assumption)), (by first | exact Or.inl ⟨rfl, fun g => (by first | exact ne_isN (by assumption) g | exact ne_isN (by assumption) g.1 | exact ne_isN (by assumption) g.2 | exact ne_isN (by assumption) g.2.1 | exact ne_isN (by assumption) g.2.2 | exact ne_isN (by assumption) g.2.2.1 | exact ne_isN (by assumption) g.2.2.2), rfl, by assumption, rfl, rfl⟩ | exact Or.inr (Or.inl ⟨rfl, ⟨isN_of (by first | assumption | omega), isN_of (by first | assumption | omega)⟩, (by first | exact fun g => ne_isN (by assumption) g.1 | exact fun g => absurd (show e < 0 by assumption) (Int32.not_lt.mpr g.2) | exact fun g => absurd g.2 (by assumption)), rfl, by assumption, rfl, rfl⟩) | exact Or.inr (Or.inr (Or.inl ⟨rfl, ⟨_, _, _, _, _, rfl, rfl, rfl, rfl, by omega, by omega, by omega, by omega, (by rw [← BX_cd hn2 hBX]; assumption), hyM, hyG, ACT_of hn2 hgt (fun p hp => hyd p hp), congrArg nI (nu_congr (fun p hp => hyd p hp))⟩, rfl, rfl, rfl⟩)) | exact Or.inr (Or.inr (Or.inr ⟨rfl, ⟨_, _, _, _, rfl, rfl, rfl, rfl, by omega, by omega, by omega, by omega, (by rw [← BX_cd hn2 hBX]; omega), rfl⟩, rfl, Or.inr ⟨_, by omega, by assumption, hBX⟩, rfl, rfl⟩)))⟩)
  · refine J_if_eqN (pc := 5) (tgt := 16) dX8_nth_5 (by decide) (by decide) (fun h => absurd h (by decide)) (fun _ => ?_)
    refine J_iload (pc := 8) dX8_nth_8 rfl ?_
    refine J_callS0 (pc := 10) (M := mX8_nth) (as := [.int c]) dX8_nth_10 fw_X8_isCell fl_X8_108 fs_X8_isCell rfl (c_X8_isCell hs (d := d - 1) (Nat.le_trans (by decide) hdm) (w := w) c (kc := 0) (ks := 0)) hdp (st := [.ref 19]) (Nat.le_of_ble_eq_true rfl) rfl (kr_P fun v8 hv8 => ?_) kx_I
    rcases hv8 with ⟨rfl, hk8_0⟩ | ⟨q8, rfl, hk8_0, rfl⟩
    · refine J_if_neN (pc := 13) (tgt := 20) dX8_nth_13 (by decide) (by decide) (fun h => absurd h (by decide)) (fun _ => ?_)
      refine J_iconst (pc := 16) (v := nI 1) dX8_nth_16 (by decide) ?_
      refine J_goto (pc := 17) (tgt := 21) dX8_nth_17 (by decide) ?_
      refine J_iload_n (pc := 21) dX8_nth_21 rfl rfl ?_
      refine J_callS0 (pc := 22) (M := mX8_nth) (as := [.int s]) dX8_nth_22 fw_X8_isSet fl_X8_134 fs_X8_isSet rfl (c_X8_isSet hs (d := d - 1) (Nat.le_trans (by decide) hdm) (w := w) s (kc := 0) (ks := 0)) hdp (st := [.int (nI 1), .ref 19]) (Nat.le_of_ble_eq_true rfl) rfl (kr_P fun v9 hv9 => ?_) kx_I
      rcases hv9 with ⟨rfl, hk9_0⟩ | ⟨q9, rfl, hk9_0, rfl⟩
      · refine J_if_eqN (pc := 25) (tgt := 32) dX8_nth_25 (by decide) (by decide) (fun _ => ?_) (fun h => absurd h (by decide))
        refine J_iconst (pc := 32) (v := nI 1) dX8_nth_32 (by decide) ?_
        refine J_goto (pc := 33) (tgt := 37) dX8_nth_33 (by decide) ?_
        refine J_callV0 (pc := 37) (M := mX8_nth) (as := [.int (nI 1), .int (nI 1)]) dX8_nth_37 fw_X8_isThrown fl_X8_35 fm_X8_isThrown fe_X8_isThrown h19 (by decide) rfl rfl rfl (c_X8_isThrown hs (d := d - 1) (Nat.le_trans (by decide) hdm) (w := w) (n := n) (mv := mv) (rw := rw) (nx := nx) (b := b) (bt := bt) (kn := kn) (en := en) (dn := dn) (rf := rf) (kk := kk) (th := th) ⟨h19, h20, h21, h22, hbb, hbl, hb3⟩ hn1 hn2 gm gr gx 1 1 (by first | assumption | omega) (by first | assumption | omega) (kc := 0) (ks := 0)) hdp (st := []) (Nat.le_of_ble_eq_true rfl) rfl (kr_I fun v10 w10 hv10 hw10 => ?_) kx_I
        obtain ⟨hR10, hFc10⟩ := hw10
        obtain ⟨h19_10, h20_10, h21_10, h22_10, hbb_10, hbl_10, hb3_10⟩ := hR10
        have hF10 := hF.tr hFc10
        subst hv10
        show J X mX8_nth d kc ks 40 [some (.ref 19), some (.int s), some (.int (nI q1)), some (.int e), some (.int c), none, none, none, none, none] [.int (nI 1)] w10 _
        refine J_if_eqN (pc := 40) (tgt := 45) dX8_nth_40 (by decide) (by decide) (fun h => absurd h (by decide)) (fun _ => ?_)
        refine J_iconst (pc := 43) (v := nI 0) dX8_nth_43 (by decide) ?_
        exact J_iret (pc := 44) dX8_nth_44 rfl (⟨mv, rw, nx, b, bt, kn, en, dn, rf, nI (tW 1 1), ⟨h19_10, h20_10, h21_10, h22_10, hbb_10, hbl_10, hb3_10⟩, hF10, gm, gr, gx, (by first | assumption | exact PM_st hn2 (by assumption) (by assumption) (by assumption)), (by first | exact Or.inl ⟨rfl, fun g => (by first | exact ne_isN (by assumption) g | exact ne_isN (by assumption) g.1 | exact ne_isN (by assumption) g.2 | exact ne_isN (by assumption) g.2.1 | exact ne_isN (by assumption) g.2.2 | exact ne_isN (by assumption) g.2.2.1 | exact ne_isN (by assumption) g.2.2.2), rfl, by assumption, rfl, rfl⟩ | exact Or.inr (Or.inl ⟨rfl, ⟨isN_of (by first | assumption | omega), isN_of (by first | assumption | omega)⟩, (by first | exact fun g => ne_isN (by assumption) g.1 | exact fun g => absurd (show e < 0 by assumption) (Int32.not_lt.mpr g.2) | exact fun g => absurd g.2 (by assumption)), rfl, by assumption, rfl, rfl⟩) | exact Or.inr (Or.inr (Or.inl ⟨rfl, ⟨_, _, _, _, _, rfl, rfl, rfl, rfl, by omega, by omega, by omega, by omega, (by rw [← BX_cd hn2 hBX]; assumption), hyM, hyG, ACT_of hn2 hgt (fun p hp => hyd p hp), congrArg nI (nu_congr (fun p hp => hyd p hp))⟩, rfl, rfl, rfl⟩)) | exact Or.inr (Or.inr (Or.inr ⟨rfl, ⟨_, _, _, _, rfl, rfl, rfl, rfl, by omega, by omega, by omega, by omega, (by rw [← BX_cd hn2 hBX]; omega), rfl⟩, rfl, Or.inr ⟨_, by omega, by assumption, hBX⟩, rfl, rfl⟩)))⟩)
      · refine J_if_eqN (pc := 25) (tgt := 32) dX8_nth_25 (by decide) (by decide) (fun h => absurd h (by decide)) (fun _ => ?_)
        refine J_iload_n (pc := 28) dX8_nth_28 rfl rfl ?_
        refine J_if_ge (pc := 29) (tgt := 36) dX8_nth_29 (by decide) (fun ht11 => ?_) (fun hf12 => ?_)
        · refine J_iconst (pc := 36) (v := nI 0) dX8_nth_36 (by decide) ?_
          refine J_callV0 (pc := 37) (M := mX8_nth) (as := [.int (nI 1), .int (nI 0)]) dX8_nth_37 fw_X8_isThrown fl_X8_35 fm_X8_isThrown fe_X8_isThrown h19 (by decide) rfl rfl rfl (c_X8_isThrown hs (d := d - 1) (Nat.le_trans (by decide) hdm) (w := w) (n := n) (mv := mv) (rw := rw) (nx := nx) (b := b) (bt := bt) (kn := kn) (en := en) (dn := dn) (rf := rf) (kk := kk) (th := th) ⟨h19, h20, h21, h22, hbb, hbl, hb3⟩ hn1 hn2 gm gr gx 1 0 (by first | assumption | omega) (by first | assumption | omega) (kc := 0) (ks := 0)) hdp (st := []) (Nat.le_of_ble_eq_true rfl) rfl (kr_I fun v13 w13 hv13 hw13 => ?_) kx_I
          obtain ⟨hR13, hFc13⟩ := hw13
          obtain ⟨h19_13, h20_13, h21_13, h22_13, hbb_13, hbl_13, hb3_13⟩ := hR13
          have hF13 := hF.tr hFc13
          subst hv13
          show J X mX8_nth d kc ks 40 [some (.ref 19), some (.int (nI q9)), some (.int (nI q1)), some (.int e), some (.int c), none, none, none, none, none] [.int (nI 1)] w13 _
          refine J_if_eqN (pc := 40) (tgt := 45) dX8_nth_40 (by decide) (by decide) (fun h => absurd h (by decide)) (fun _ => ?_)
          refine J_iconst (pc := 43) (v := nI 0) dX8_nth_43 (by decide) ?_
          exact J_iret (pc := 44) dX8_nth_44 rfl (⟨mv, rw, nx, b, bt, kn, en, dn, rf, nI (tW 1 0), ⟨h19_13, h20_13, h21_13, h22_13, hbb_13, hbl_13, hb3_13⟩, hF13, gm, gr, gx, (by first | assumption | exact PM_st hn2 (by assumption) (by assumption) (by assumption)), (by first | exact Or.inl ⟨rfl, fun g => (by first | exact ne_isN (by assumption) g | exact ne_isN (by assumption) g.1 | exact ne_isN (by assumption) g.2 | exact ne_isN (by assumption) g.2.1 | exact ne_isN (by assumption) g.2.2 | exact ne_isN (by assumption) g.2.2.1 | exact ne_isN (by assumption) g.2.2.2), rfl, by assumption, rfl, rfl⟩ | exact Or.inr (Or.inl ⟨rfl, ⟨isN_of (by first | assumption | omega), isN_of (by first | assumption | omega)⟩, (by first | exact fun g => ne_isN (by assumption) g.1 | exact fun g => absurd (show e < 0 by assumption) (Int32.not_lt.mpr g.2) | exact fun g => absurd g.2 (by assumption)), rfl, by assumption, rfl, rfl⟩) | exact Or.inr (Or.inr (Or.inl ⟨rfl, ⟨_, _, _, _, _, rfl, rfl, rfl, rfl, by omega, by omega, by omega, by omega, (by rw [← BX_cd hn2 hBX]; assumption), hyM, hyG, ACT_of hn2 hgt (fun p hp => hyd p hp), congrArg nI (nu_congr (fun p hp => hyd p hp))⟩, rfl, rfl, rfl⟩)) | exact Or.inr (Or.inr (Or.inr ⟨rfl, ⟨_, _, _, _, rfl, rfl, rfl, rfl, by omega, by omega, by omega, by omega, (by rw [← BX_cd hn2 hBX]; omega), rfl⟩, rfl, Or.inr ⟨_, by omega, by assumption, hBX⟩, rfl, rfl⟩)))⟩)
        · refine J_iconst (pc := 32) (v := nI 1) dX8_nth_32 (by decide) ?_
          refine J_goto (pc := 33) (tgt := 37) dX8_nth_33 (by decide) ?_
          refine J_callV0 (pc := 37) (M := mX8_nth) (as := [.int (nI 1), .int (nI 1)]) dX8_nth_37 fw_X8_isThrown fl_X8_35 fm_X8_isThrown fe_X8_isThrown h19 (by decide) rfl rfl rfl (c_X8_isThrown hs (d := d - 1) (Nat.le_trans (by decide) hdm) (w := w) (n := n) (mv := mv) (rw := rw) (nx := nx) (b := b) (bt := bt) (kn := kn) (en := en) (dn := dn) (rf := rf) (kk := kk) (th := th) ⟨h19, h20, h21, h22, hbb, hbl, hb3⟩ hn1 hn2 gm gr gx 1 1 (by first | assumption | omega) (by first | assumption | omega) (kc := 0) (ks := 0)) hdp (st := []) (Nat.le_of_ble_eq_true rfl) rfl (kr_I fun v14 w14 hv14 hw14 => ?_) kx_I
          obtain ⟨hR14, hFc14⟩ := hw14
          obtain ⟨h19_14, h20_14, h21_14, h22_14, hbb_14, hbl_14, hb3_14⟩ := hR14
          have hF14 := hF.tr hFc14
          subst hv14
          show J X mX8_nth d kc ks 40 [some (.ref 19), some (.int (nI q9)), some (.int (nI q1)), some (.int e), some (.int c), none, none, none, none, none] [.int (nI 1)] w14 _
          refine J_if_eqN (pc := 40) (tgt := 45) dX8_nth_40 (by decide) (by decide) (fun h => absurd h (by decide)) (fun _ => ?_)
          refine J_iconst (pc := 43) (v := nI 0) dX8_nth_43 (by decide) ?_
          exact J_iret (pc := 44) dX8_nth_44 rfl (⟨mv, rw, nx, b, bt, kn, en, dn, rf, nI (tW 1 1), ⟨h19_14, h20_14, h21_14, h22_14, hbb_14, hbl_14, hb3_14⟩, hF14, gm, gr, gx, (by first | assumption | exact PM_st hn2 (by assumption) (by assumption) (by assumption)), (by first | exact Or.inl ⟨rfl, fun g => (by first | exact ne_isN (by assumption) g | exact ne_isN (by assumption) g.1 | exact ne_isN (by assumption) g.2 | exact ne_isN (by assumption) g.2.1 | exact ne_isN (by assumption) g.2.2 | exact ne_isN (by assumption) g.2.2.1 | exact ne_isN (by assumption) g.2.2.2), rfl, by assumption, rfl, rfl⟩ | exact Or.inr (Or.inl ⟨rfl, ⟨isN_of (by first | assumption | omega), isN_of (by first | assumption | omega)⟩, (by first | exact fun g => ne_isN (by assumption) g.1 | exact fun g => absurd (show e < 0 by assumption) (Int32.not_lt.mpr g.2) | exact fun g => absurd g.2 (by assumption)), rfl, by assumption, rfl, rfl⟩) | exact Or.inr (Or.inr (Or.inl ⟨rfl, ⟨_, _, _, _, _, rfl, rfl, rfl, rfl, by omega, by omega, by omega, by omega, (by rw [← BX_cd hn2 hBX]; assumption), hyM, hyG, ACT_of hn2 hgt (fun p hp => hyd p hp), congrArg nI (nu_congr (fun p hp => hyd p hp))⟩, rfl, rfl, rfl⟩)) | exact Or.inr (Or.inr (Or.inr ⟨rfl, ⟨_, _, _, _, rfl, rfl, rfl, rfl, by omega, by omega, by omega, by omega, (by rw [← BX_cd hn2 hBX]; omega), rfl⟩, rfl, Or.inr ⟨_, by omega, by assumption, hBX⟩, rfl, rfl⟩)))⟩)
    · refine J_if_neN (pc := 13) (tgt := 20) dX8_nth_13 (by decide) (by decide) (fun _ => ?_) (fun h => absurd h (by decide))
      refine J_iconst (pc := 20) (v := nI 0) dX8_nth_20 (by decide) ?_
      refine J_iload_n (pc := 21) dX8_nth_21 rfl rfl ?_
      refine J_callS0 (pc := 22) (M := mX8_nth) (as := [.int s]) dX8_nth_22 fw_X8_isSet fl_X8_134 fs_X8_isSet rfl (c_X8_isSet hs (d := d - 1) (Nat.le_trans (by decide) hdm) (w := w) s (kc := 0) (ks := 0)) hdp (st := [.int (nI 0), .ref 19]) (Nat.le_of_ble_eq_true rfl) rfl (kr_P fun v15 hv15 => ?_) kx_I
      rcases hv15 with ⟨rfl, hk15_0⟩ | ⟨q15, rfl, hk15_0, rfl⟩
      · refine J_if_eqN (pc := 25) (tgt := 32) dX8_nth_25 (by decide) (by decide) (fun _ => ?_) (fun h => absurd h (by decide))
        refine J_iconst (pc := 32) (v := nI 1) dX8_nth_32 (by decide) ?_
        refine J_goto (pc := 33) (tgt := 37) dX8_nth_33 (by decide) ?_
        refine J_callV0 (pc := 37) (M := mX8_nth) (as := [.int (nI 0), .int (nI 1)]) dX8_nth_37 fw_X8_isThrown fl_X8_35 fm_X8_isThrown fe_X8_isThrown h19 (by decide) rfl rfl rfl (c_X8_isThrown hs (d := d - 1) (Nat.le_trans (by decide) hdm) (w := w) (n := n) (mv := mv) (rw := rw) (nx := nx) (b := b) (bt := bt) (kn := kn) (en := en) (dn := dn) (rf := rf) (kk := kk) (th := th) ⟨h19, h20, h21, h22, hbb, hbl, hb3⟩ hn1 hn2 gm gr gx 0 1 (by first | assumption | omega) (by first | assumption | omega) (kc := 0) (ks := 0)) hdp (st := []) (Nat.le_of_ble_eq_true rfl) rfl (kr_I fun v16 w16 hv16 hw16 => ?_) kx_I
        obtain ⟨hR16, hFc16⟩ := hw16
        obtain ⟨h19_16, h20_16, h21_16, h22_16, hbb_16, hbl_16, hb3_16⟩ := hR16
        have hF16 := hF.tr hFc16
        subst hv16
        show J X mX8_nth d kc ks 40 [some (.ref 19), some (.int s), some (.int (nI q1)), some (.int e), some (.int (nI q8)), none, none, none, none, none] [.int (nI 1)] w16 _
        refine J_if_eqN (pc := 40) (tgt := 45) dX8_nth_40 (by decide) (by decide) (fun h => absurd h (by decide)) (fun _ => ?_)
        refine J_iconst (pc := 43) (v := nI 0) dX8_nth_43 (by decide) ?_
        exact J_iret (pc := 44) dX8_nth_44 rfl (⟨mv, rw, nx, b, bt, kn, en, dn, rf, nI (tW 0 1), ⟨h19_16, h20_16, h21_16, h22_16, hbb_16, hbl_16, hb3_16⟩, hF16, gm, gr, gx, (by first | assumption | exact PM_st hn2 (by assumption) (by assumption) (by assumption)), (by first | exact Or.inl ⟨rfl, fun g => (by first | exact ne_isN (by assumption) g | exact ne_isN (by assumption) g.1 | exact ne_isN (by assumption) g.2 | exact ne_isN (by assumption) g.2.1 | exact ne_isN (by assumption) g.2.2 | exact ne_isN (by assumption) g.2.2.1 | exact ne_isN (by assumption) g.2.2.2), rfl, by assumption, rfl, rfl⟩ | exact Or.inr (Or.inl ⟨rfl, ⟨isN_of (by first | assumption | omega), isN_of (by first | assumption | omega)⟩, (by first | exact fun g => ne_isN (by assumption) g.1 | exact fun g => absurd (show e < 0 by assumption) (Int32.not_lt.mpr g.2) | exact fun g => absurd g.2 (by assumption)), rfl, by assumption, rfl, rfl⟩) | exact Or.inr (Or.inr (Or.inl ⟨rfl, ⟨_, _, _, _, _, rfl, rfl, rfl, rfl, by omega, by omega, by omega, by omega, (by rw [← BX_cd hn2 hBX]; assumption), hyM, hyG, ACT_of hn2 hgt (fun p hp => hyd p hp), congrArg nI (nu_congr (fun p hp => hyd p hp))⟩, rfl, rfl, rfl⟩)) | exact Or.inr (Or.inr (Or.inr ⟨rfl, ⟨_, _, _, _, rfl, rfl, rfl, rfl, by omega, by omega, by omega, by omega, (by rw [← BX_cd hn2 hBX]; omega), rfl⟩, rfl, Or.inr ⟨_, by omega, by assumption, hBX⟩, rfl, rfl⟩)))⟩)
      · refine J_if_eqN (pc := 25) (tgt := 32) dX8_nth_25 (by decide) (by decide) (fun h => absurd h (by decide)) (fun _ => ?_)
        refine J_iload_n (pc := 28) dX8_nth_28 rfl rfl ?_
        refine J_if_ge (pc := 29) (tgt := 36) dX8_nth_29 (by decide) (fun ht17 => ?_) (fun hf18 => ?_)
        · refine J_iconst (pc := 36) (v := nI 0) dX8_nth_36 (by decide) ?_
          refine J_callV0 (pc := 37) (M := mX8_nth) (as := [.int (nI 0), .int (nI 0)]) dX8_nth_37 fw_X8_isThrown fl_X8_35 fm_X8_isThrown fe_X8_isThrown h19 (by decide) rfl rfl rfl (c_X8_isThrown hs (d := d - 1) (Nat.le_trans (by decide) hdm) (w := w) (n := n) (mv := mv) (rw := rw) (nx := nx) (b := b) (bt := bt) (kn := kn) (en := en) (dn := dn) (rf := rf) (kk := kk) (th := th) ⟨h19, h20, h21, h22, hbb, hbl, hb3⟩ hn1 hn2 gm gr gx 0 0 (by first | assumption | omega) (by first | assumption | omega) (kc := 0) (ks := 0)) hdp (st := []) (Nat.le_of_ble_eq_true rfl) rfl (kr_I fun v19 w19 hv19 hw19 => ?_) kx_I
          obtain ⟨hR19, hFc19⟩ := hw19
          obtain ⟨h19_19, h20_19, h21_19, h22_19, hbb_19, hbl_19, hb3_19⟩ := hR19
          have hF19 := hF.tr hFc19
          subst hv19
          show J X mX8_nth d kc ks 40 [some (.ref 19), some (.int (nI q15)), some (.int (nI q1)), some (.int e), some (.int (nI q8)), none, none, none, none, none] [.int (nI 0)] w19 _
          refine J_if_eqN (pc := 40) (tgt := 45) dX8_nth_40 (by decide) (by decide) (fun _ => ?_) (fun h => absurd h (by decide))
          refine J_aload_n (pc := 45) dX8_nth_45 rfl rfl rfl ?_
          refine J_iload_n (pc := 46) dX8_nth_46 rfl rfl ?_
          refine J_callV (pc := 47) (M := mX8_nth) (as := [.int (nI q15)]) dX8_nth_47 fw_X8_group fl_X8_99 fm_X8_group fe_X8_group h19_19 (by decide) rfl rfl rfl (c_X8_group_ate hs (d := d - 1) (Nat.le_trans (by decide) hdm) (w := w19) (n := n) (mv := mv) (rw := rw) (nx := nx) (b := b) (bt := bt) (kn := kn) (en := en) (dn := dn) (rf := rf) (kk := kk) (th := nI (tW 0 0)) ⟨h19_19, h20_19, h21_19, h22_19, hbb_19, hbl_19, hb3_19⟩ hn1 hn2 gm gr gx q15 (by first | assumption | omega) (by first | assumption | omega) (by first | assumption | omega) (kc := 13) (ks := 2054) (Nat.le_refl _) (Nat.le_refl _)) hdp (by omega) (by omega) (st := []) (Nat.le_of_ble_eq_true rfl) rfl (kr_V fun w20 hw20 => ?_) kx_V
          obtain ⟨rw20, nx20, b20, bt20, kn20, en20, hR20, hFc20, hgrw20, hgnx20, hp20_0, hp20_1⟩ := hw20
          obtain ⟨h19_20, h20_20, h21_20, h22_20, hbb_20, hbl_20, hb3_20⟩ := hR20
          have qd20 := hFc20.2.1
          have hF20 := hF19.tr hFc20
          have hBX := hp20_1
          have hBT := BX_BT hn1 hn2 hBX
          refine J_iload_n (pc := 50) dX8_nth_50 rfl rfl ?_
          refine J_aload_n (pc := 51) dX8_nth_51 rfl rfl rfl ?_
          refine J_callV0 (pc := 52) (M := mX8_nth) (as := []) dX8_nth_52 fw_X8_sizeNow fl_X8_102 fm_X8_sizeNow fe_X8_sizeNow h19_20 (by decide) rfl rfl rfl (c_X8_sizeNow hs (d := d - 1) (Nat.le_trans (by decide) hdm) (w := w20) (n := n) (mv := mv) (rw := rw20) (nx := nx20) (b := b20) (bt := bt20) (kn := kn20) (en := en20) (dn := dn) (rf := rf) (kk := kk) (th := nI (tW 0 0)) ⟨h19_20, h20_20, h21_20, h22_20, hbb_20, hbl_20, hb3_20⟩ hn1 hn2 gm hgrw20 hgnx20  (kc := 0) (ks := 0)) hdp (st := [.int e]) (Nat.le_of_ble_eq_true rfl) rfl (kr_P fun v21 hv21 => ?_) kx_I
          subst hv21
          have hcl := cnt_le (bitL bt20) 5056
          refine J_icmp_lt (pc := 55) (tgt := 63) dX8_nth_55 (by decide) (fun ht22 => ?_) (fun hf23 => ?_)
          · obtain ⟨k24, hk24, rfl⟩ := nI_k2 ht22 (by omega) (Int32.not_lt.mpr ht17)
            refine J_bipush (pc := 63) (v := nI 7) dX8_nth_63 (by decide) ?_
            refine J_newW (pc := 65) (M := mX8_nth) (N := 7) dX8_nth_65 fa_int rfl (by omega) (by omega) (by omega) (fun a65 w25 ha25 hln25 hc25 hne25 => ?_)
            have q1925 := gl h19_20
            have q2025 := gl h20_20
            have q2125 := gl h21_20
            have q2225 := gl h22_20
            have qb25 := gl hbb_20
            have qF25 := hF20.1
            have h19_25 := (hne25 19 (by omega)).trans h19_20
            have h20_25 := (hne25 20 (by omega)).trans h20_20
            have h21_25 := (hne25 21 (by omega)).trans h21_20
            have h22_25 := (hne25 22 (by omega)).trans h22_20
            have hb_25 := (hne25 _ (by omega)).trans hbb_20
            have hF25 := hF20.pu ha25 hln25 hne25
            rw [aF_0] at hc25
            refine J_astore (pc := 67) dX8_nth_67 (by decide) rfl rfl ?_
            show J X mX8_nth d (kc - 13 - 1) (ks - 2054 - 7) 69 [some (.ref 19), some (.int (nI q15)), some (.int (nI q1)), some (.int (nI k24)), some (.int (nI q8)), some (.ref a65), none, none, none, none] [] w25 _
            refine J_bipush (pc := 69) (v := nI 7) dX8_nth_69 (by decide) ?_
            refine J_newW (pc := 71) (M := mX8_nth) (N := 7) dX8_nth_71 fa_int rfl (by omega) (by omega) (by omega) (fun a71 w26 ha26 hln26 hc26 hne26 => ?_)
            have q1926 := gl h19_25
            have q2026 := gl h20_25
            have q2126 := gl h21_25
            have q2226 := gl h22_25
            have qb26 := gl hb_25
            have qa6526 := gl hc25
            have qF26 := hF25.1
            have h19_26 := (hne26 19 (by omega)).trans h19_25
            have h20_26 := (hne26 20 (by omega)).trans h20_25
            have h21_26 := (hne26 21 (by omega)).trans h21_25
            have h22_26 := (hne26 22 (by omega)).trans h22_25
            have hb_26 := (hne26 _ (by omega)).trans hb_25
            have hla65_26 := (hne26 a65 (by omega)).trans hc25
            have hF26 := hF25.pu ha26 hln26 hne26
            rw [aF_0] at hc26
            refine J_astore (pc := 73) dX8_nth_73 (by decide) rfl rfl ?_
            show J X mX8_nth d (kc - 13 - 1 - 1) (ks - 2054 - 7 - 7) 75 [some (.ref 19), some (.int (nI q15)), some (.int (nI q1)), some (.int (nI k24)), some (.int (nI q8)), some (.ref a65), some (.ref a71), none, none, none] [] w26 _
            refine J_iload_n (pc := 75) dX8_nth_75 rfl rfl ?_
            refine J_istore (pc := 76) dX8_nth_76 (by decide) rfl ?_
            show J X mX8_nth d (kc - 13 - 1 - 1) (ks - 2054 - 7 - 7) 78 [some (.ref 19), some (.int (nI q15)), some (.int (nI q1)), some (.int (nI k24)), some (.int (nI q8)), some (.ref a65), some (.ref a71), some (.int (nI k24)), none, none] [] w26 _
            refine J_iconst (pc := 78) (v := nI 0) dX8_nth_78 (by decide) ?_
            refine J_istore (pc := 79) dX8_nth_79 (by decide) rfl ?_
            show J X mX8_nth d (kc - 13 - 1 - 1) (ks - 2054 - 7 - 7) 81 [some (.ref 19), some (.int (nI q15)), some (.int (nI q1)), some (.int (nI k24)), some (.int (nI q8)), some (.ref a65), some (.ref a71), some (.int (nI k24)), some (.int (nI 0)), none] [] w26 _
            have lp81_27 : ∀ (fuel : Nat) (w28 : List jC) (rw_81 : Nat → Nat) (f65_81 : Nat → Nat) (f71_81 : Nat → Nat) (y7 : Nat) (c8 : Nat), (RM n mv rw_81 nx20 b20 bt20 kn20 en20 dn rf kk (nI (tW 0 0)) w28) → (FR b b20 w w28) → (∀ i, rw_81 i < 7) → (w28[a65]? = some (aF 7 f65_81)) → (w28[a71]? = some (aF 7 f71_81)) → (c8 ≤ n) → (∀ i, f71_81 i < 7) → (y7 < na n bt20 (fun j => mv (q1 * 7 + j)) f71_81 c8 (fc n)) → (y7 < 5056) → (LF n bt20 (fun j => mv (q1 * 7 + j)) f71_81 (fc n) k24 c8 y7) → (n - c8 < fuel) → J X mX8_nth d (kc - 13 - 1 - 1) (ks - 2054 - 7 - 7) 81 [some (.ref 19), some (.int (nI q15)), some (.int (nI q1)), some (.int (nI k24)), some (.int (nI q8)), some (.ref a65), some (.ref a71), some (.int (nI y7)), some (.int (nI c8)), none] [] w28 (pJ (fun v w' => ∃ (mv' : Nat → Nat), ∃ (rw' : Nat → Nat), ∃ (nx' : Nat → Nat), ∃ (b' : Nat), ∃ (bt' : List Int32), ∃ (kn' : Int32), ∃ (en' : Int32), ∃ (dn' : Int32), ∃ (rf' : Int32), ∃ (th' : Int32), RM n mv' rw' nx' b' bt' kn' en' dn' rf' kk th' w' ∧ FR b b' w w' ∧ (∀ i, mv' i < 7) ∧ (∀ i, rw' i < 7) ∧ (∀ i, nx' i < 7) ∧ PM n mv' ∧ ((th' = nI 1 ∧ ¬ (isN (nI q1) 6 ∧ isN (nI q8) 6) ∧ mv' = mv ∧ KX n mv kn' bt' ∧ dn' = dn ∧ rf' = rf) ∨ (th' = nI 2 ∧ (isN (nI q1) 6 ∧ isN (nI q8) 6) ∧ ¬ (isN (nI q15) 64 ∧ 0 ≤ (nI k24)) ∧ mv' = mv ∧ KX n mv kn' bt' ∧ dn' = dn ∧ rf' = rf) ∨ (th' = nI 0 ∧ (∃ s1 a1 c1 rk y : Nat, (nI q15) = nI s1 ∧ (nI q1) = nI a1 ∧ (nI q8) = nI c1 ∧ (nI k24) = nI rk ∧ s1 < 64 ∧ a1 < 6 ∧ c1 < 6 ∧ rk < 2 ^ 31 ∧ rk < cd n (Gg n (gS (mW n mv) s1 6)) ∧ Mv n y ∧ GK n (Gg n (gS (mW n mv) s1 6)) (fun j => mv (a1 * 7 + j)) rk y ∧ ACT n mv c1 (d8 y) mv' ∧ v = nI (nuF (d8 y) 0 n n)) ∧ kn' = (-1) ∧ dn' = (dn + nI 1) ∧ rf' = rf) ∨ (th' = nI 0 ∧ (∃ s1 a1 c1 rk : Nat, (nI q15) = nI s1 ∧ (nI q1) = nI a1 ∧ (nI q8) = nI c1 ∧ (nI k24) = nI rk ∧ s1 < 64 ∧ a1 < 6 ∧ c1 < 6 ∧ rk < 2 ^ 31 ∧ ¬ rk < cd n (Gg n (gS (mW n mv) s1 6)) ∧ v = (-9)) ∧ mv' = mv ∧ KX n mv kn' bt' ∧ dn' = dn ∧ rf' = (rf + nI 1))))) := by
              intro fuellp81_27
              induction fuellp81_27 with
              | zero => intros; omega
              | succ fuellp81_27 ihlp81_27 =>
                intro w28 rw_81 f65_81 f71_81 y7 c8 hR29 hF30 gr31 hl32 hl33 hv81_0 hv81_1 hv81_2 hv81_3 hv81_4 hf34
                obtain ⟨h19_35, h20_35, h21_35, h22_35, hb_35, hbl_35, hb3_35⟩ := hR29
                refine J_iload (pc := 81) dX8_nth_81 rfl ?_
                refine J_aload_n (pc := 83) dX8_nth_83 rfl rfl rfl ?_
                refine J_get (pc := 84) (k := 0) dX8_nth_84 kC9 (by decide) ff_X8_7 h19_35 rfl ?_
                refine J_icmp_geN (pc := 87) (tgt := 214) dX8_nth_87 (by decide) (by omega) (by omega) (fun ht36 => ?_) (fun hf37 => ?_)
                · have hPt : Pn n f71_81 := by
                    have h := hv81_2
                    rw [show c8 = n by omega] at h
                    exact nth_Pn (by omega) (hy0 q1 (by omega)) h
                  refine J_iconst (pc := 214) (v := nI 0) dX8_nth_214 (by decide) ?_
                  refine J_istore (pc := 215) dX8_nth_215 (by decide) rfl ?_
                  show J X mX8_nth d (kc - 13 - 1 - 1) (ks - 2054 - 7 - 7) 217 [some (.ref 19), some (.int (nI q15)), some (.int (nI q1)), some (.int (nI k24)), some (.int (nI q8)), some (.ref a65), some (.ref a71), some (.int (nI y7)), some (.int (nI 0)), none] [] w28 _
                  have lp217_38 : ∀ (fuel : Nat) (w39 : List jC) (nx_217 : Nat → Nat) (l8 : Nat), (RM n mv rw_81 nx_217 b20 bt20 kn20 en20 dn rf kk (nI (tW 0 0)) w39) → (FR b b20 w w39) → (∀ i, nx_217 i < 7) → (w39[a65]? = some (aF 7 f65_81)) → (w39[a71]? = some (aF 7 f71_81)) → (l8 ≤ n) → (∀ p, p < l8 → nx_217 (mv (q1 * 7 + p)) = f71_81 p) → (n - l8 < fuel) → J X mX8_nth d (kc - 13 - 1 - 1) (ks - 2054 - 7 - 7) 217 [some (.ref 19), some (.int (nI q15)), some (.int (nI q1)), some (.int (nI k24)), some (.int (nI q8)), some (.ref a65), some (.ref a71), some (.int (nI y7)), some (.int (nI l8)), none] [] w39 (pJ (fun v w' => ∃ (mv' : Nat → Nat), ∃ (rw' : Nat → Nat), ∃ (nx' : Nat → Nat), ∃ (b' : Nat), ∃ (bt' : List Int32), ∃ (kn' : Int32), ∃ (en' : Int32), ∃ (dn' : Int32), ∃ (rf' : Int32), ∃ (th' : Int32), RM n mv' rw' nx' b' bt' kn' en' dn' rf' kk th' w' ∧ FR b b' w w' ∧ (∀ i, mv' i < 7) ∧ (∀ i, rw' i < 7) ∧ (∀ i, nx' i < 7) ∧ PM n mv' ∧ ((th' = nI 1 ∧ ¬ (isN (nI q1) 6 ∧ isN (nI q8) 6) ∧ mv' = mv ∧ KX n mv kn' bt' ∧ dn' = dn ∧ rf' = rf) ∨ (th' = nI 2 ∧ (isN (nI q1) 6 ∧ isN (nI q8) 6) ∧ ¬ (isN (nI q15) 64 ∧ 0 ≤ (nI k24)) ∧ mv' = mv ∧ KX n mv kn' bt' ∧ dn' = dn ∧ rf' = rf) ∨ (th' = nI 0 ∧ (∃ s1 a1 c1 rk y : Nat, (nI q15) = nI s1 ∧ (nI q1) = nI a1 ∧ (nI q8) = nI c1 ∧ (nI k24) = nI rk ∧ s1 < 64 ∧ a1 < 6 ∧ c1 < 6 ∧ rk < 2 ^ 31 ∧ rk < cd n (Gg n (gS (mW n mv) s1 6)) ∧ Mv n y ∧ GK n (Gg n (gS (mW n mv) s1 6)) (fun j => mv (a1 * 7 + j)) rk y ∧ ACT n mv c1 (d8 y) mv' ∧ v = nI (nuF (d8 y) 0 n n)) ∧ kn' = (-1) ∧ dn' = (dn + nI 1) ∧ rf' = rf) ∨ (th' = nI 0 ∧ (∃ s1 a1 c1 rk : Nat, (nI q15) = nI s1 ∧ (nI q1) = nI a1 ∧ (nI q8) = nI c1 ∧ (nI k24) = nI rk ∧ s1 < 64 ∧ a1 < 6 ∧ c1 < 6 ∧ rk < 2 ^ 31 ∧ ¬ rk < cd n (Gg n (gS (mW n mv) s1 6)) ∧ v = (-9)) ∧ mv' = mv ∧ KX n mv kn' bt' ∧ dn' = dn ∧ rf' = (rf + nI 1))))) := by
                    intro fuellp217_38
                    induction fuellp217_38 with
                    | zero => intros; omega
                    | succ fuellp217_38 ihlp217_38 =>
                      intro w39 nx_217 l8 hR40 hF41 gx42 hl43 hl44 hv217_0 hv217_1 hf45
                      obtain ⟨h19_46, h20_46, h21_46, h22_46, hb_46, hbl_46, hb3_46⟩ := hR40
                      refine J_iload (pc := 217) dX8_nth_217 rfl ?_
                      refine J_aload_n (pc := 219) dX8_nth_219 rfl rfl rfl ?_
                      refine J_get (pc := 220) (k := 0) dX8_nth_220 kC9 (by decide) ff_X8_7 h19_46 rfl ?_
                      refine J_icmp_geN (pc := 223) (tgt := 249) dX8_nth_223 (by decide) (by omega) (by omega) (fun ht47 => ?_) (fun hf48 => ?_)
                      · refine J_aload_n (pc := 249) dX8_nth_249 rfl rfl rfl ?_
                        refine J_iload (pc := 250) dX8_nth_250 rfl ?_
                        refine J_aload_n (pc := 252) dX8_nth_252 rfl rfl rfl ?_
                        refine J_get (pc := 253) (k := 3) dX8_nth_253 kC9 (by decide) ff_X8_20 h19_46 rfl ?_
                        have hPx := Pn_inv (g := nx_217) (hy0 q1 (by omega)) hPt (fun p hp => hv217_1 p (by omega))
                        have hyM := mkM_Mv hn2 hPx
                        have hyd : ∀ p, p < n → nx_217 p = d8 (mkM n nx_217) p := fun p hp => (mkM_d hn2 hPx.1 hp).symm
                        have hyG := LF_GK (G := Gg n (gS (mW n mv) q15 6)) (f := (fun j => mv (q1 * 7 + j))) (tf := f71_81) (y := mkM n nx_217) (by omega) hn2 hBX (fun j hj => (hy0 q1 (by omega)).1 j hj) (fun j hj => (hyd _ ((hy0 q1 (by omega)).1 j hj)).symm.trans (hv217_1 j (by omega))) (LF_end hv81_4 (by omega))
                        refine J_callV0 (pc := 256) (M := mX8_nth) (as := [.int (nI q8), .ref 22]) dX8_nth_256 fw_X8_get fl_X8_111 fm_X8_get fe_X8_get h19_46 (by decide) rfl rfl rfl (c_X8_get_at22 hs (d := d - 1) (Nat.le_trans (by decide) hdm) (w := w39) (n := n) (mv := mv) (rw := rw_81) (nx := nx_217) (b := b20) (bt := bt20) (kn := kn20) (en := en20) (dn := dn) (rf := rf) (kk := kk) (th := nI (tW 0 0)) ⟨h19_46, h20_46, h21_46, h22_46, hb_46, hbl_46, hb3_46⟩ hn1 hn2 gm gr31 gx42 q8 (by first | assumption | omega) (kc := 0) (ks := 0)) hdp (st := []) (Nat.le_of_ble_eq_true rfl) rfl (kr_I fun v49 w49 hv49 hw49 => ?_) kx_I
                        obtain ⟨mv49, hR49, hFc49, hgmv49, hp49_0⟩ := hw49
                        obtain ⟨h19_49, h20_49, h21_49, h22_49, hbb_49, hbl_49, hb3_49⟩ := hR49
                        have hla65_49 := hFc49.at hl43 (by omega) (by omega)
                        have hla71_49 := hFc49.at hl44 (by omega) (by omega)
                        have hF49 := hF41.tr hFc49
                        subst hv49
                        have hgt := hp49_0
                        exact J_iret (pc := 259) dX8_nth_259 rfl (⟨mv49, rw_81, nx_217, b20, bt20, (-1), en20, (dn + nI 1), rf, nI (tW 0 0), ⟨h19_49, h20_49, h21_49, h22_49, hbb_49, hbl_49, hb3_49⟩, hF49, hgmv49, gr31, gx42, (by first | assumption | exact PM_st hn2 (by assumption) (by assumption) (by assumption)), (by first | exact Or.inl ⟨rfl, fun g => (by first | exact ne_isN (by assumption) g | exact ne_isN (by assumption) g.1 | exact ne_isN (by assumption) g.2 | exact ne_isN (by assumption) g.2.1 | exact ne_isN (by assumption) g.2.2 | exact ne_isN (by assumption) g.2.2.1 | exact ne_isN (by assumption) g.2.2.2), rfl, by assumption, rfl, rfl⟩ | exact Or.inr (Or.inl ⟨rfl, ⟨isN_of (by first | assumption | omega), isN_of (by first | assumption | omega)⟩, (by first | exact fun g => ne_isN (by assumption) g.1 | exact fun g => absurd (show e < 0 by assumption) (Int32.not_lt.mpr g.2) | exact fun g => absurd g.2 (by assumption)), rfl, by assumption, rfl, rfl⟩) | exact Or.inr (Or.inr (Or.inl ⟨rfl, ⟨_, _, _, _, _, rfl, rfl, rfl, rfl, by omega, by omega, by omega, by omega, (by rw [← BX_cd hn2 hBX]; assumption), hyM, hyG, ACT_of hn2 hgt (fun p hp => hyd p hp), congrArg nI (nu_congr (fun p hp => hyd p hp))⟩, rfl, rfl, rfl⟩)) | exact Or.inr (Or.inr (Or.inr ⟨rfl, ⟨_, _, _, _, rfl, rfl, rfl, rfl, by omega, by omega, by omega, by omega, (by rw [← BX_cd hn2 hBX]; omega), rfl⟩, rfl, Or.inr ⟨_, by omega, by assumption, hBX⟩, rfl, rfl⟩)))⟩)
                      · refine J_aload_n (pc := 226) dX8_nth_226 rfl rfl rfl ?_
                        refine J_get (pc := 227) (k := 3) dX8_nth_227 kC9 (by decide) ff_X8_20 h19_46 rfl ?_
                        refine J_aload_n (pc := 230) dX8_nth_230 rfl rfl rfl ?_
                        refine J_iload_n (pc := 231) dX8_nth_231 rfl rfl ?_
                        refine J_iload (pc := 232) dX8_nth_232 rfl ?_
                        refine J_callV0 (pc := 234) (M := mX8_nth) (as := [.int (nI q1), .int (nI l8)]) dX8_nth_234 fw_X8_at fl_X8_82 fm_X8_at fe_X8_at h19_46 (by decide) rfl rfl rfl (c_X8_at hs (d := d - 1) (Nat.le_trans (by decide) hdm) (w := w39) (n := n) (mv := mv) (rw := rw_81) (nx := nx_217) (b := b20) (bt := bt20) (kn := kn20) (en := en20) (dn := dn) (rf := rf) (kk := kk) (th := nI (tW 0 0)) ⟨h19_46, h20_46, h21_46, h22_46, hb_46, hbl_46, hb3_46⟩ hn1 hn2 gm gr31 gx42 q1 l8 (by first | assumption | omega) (by first | assumption | omega) (kc := 0) (ks := 0)) hdp (st := [.ref 22]) (Nat.le_of_ble_eq_true rfl) rfl (kr_P fun v50 hv50 => ?_) kx_I
                        subst hv50
                        have hq51 := gm (q1 * 7 + l8)
                        refine J_aload (pc := 237) dX8_nth_237 rfl rfl ?_
                        refine J_iload (pc := 239) dX8_nth_239 rfl ?_
                        refine J_ialdF (pc := 241) dX8_nth_241 hl44 (by omega) (by decide) ?_
                        have ht7 := hv81_1 l8
                        refine J_iastF (pc := 242) dX8_nth_242 h22_46 (by omega) (by decide) (fun w52 hln52 hc52 hne52 => ?_)
                        have hg52 : ∀ i, (up nx_217 (mv (q1 * 7 + l8)) (f71_81 l8)) i < 7 := up_b gx42 (by omega)
                        have h19_52 := (hne52 19 (by decide)).trans h19_46
                        have h20_52 := (hne52 20 (by decide)).trans h20_46
                        have h21_52 := (hne52 21 (by decide)).trans h21_46
                        have hb_52 := (hne52 _ (Nat.ne_of_gt (Nat.lt_of_lt_of_le (by decide) hb3_46))).trans hb_46
                        have hla65_52 := (hne52 a65 (by omega)).trans hl43
                        have hla71_52 := (hne52 a71 (by omega)).trans hl44
                        have hF52 := hF41.st hln52 hne52 (Or.inl (by decide))
                        refine J_iincN (pc := 243) (b := 1) dX8_nth_243 rfl (by decide) (by decide) rfl ?_
                        show J X mX8_nth d (kc - 13 - 1 - 1) (ks - 2054 - 7 - 7) 246 [some (.ref 19), some (.int (nI q15)), some (.int (nI q1)), some (.int (nI k24)), some (.int (nI q8)), some (.ref a65), some (.ref a71), some (.int (nI y7)), some (.int (nI (l8 + 1))), none] [] w52 _
                        refine J_goto (pc := 246) (tgt := 217) dX8_nth_246 (by decide) ?_
                        exact J_sub (L' := [some (.ref 19), some (.int (nI q15)), some (.int (nI q1)), some (.int (nI k24)), some (.int (nI q8)), some (.ref a65), some (.ref a71), some (.int (nI y7)), some (.int (nI (l8 + 1))), none]) ⟨rfl, ⟨rfl, ⟨rfl, ⟨rfl, ⟨rfl, ⟨rfl, ⟨rfl, ⟨rfl, ⟨rfl, trivial⟩⟩⟩⟩⟩⟩⟩⟩⟩ (ihlp217_38 w52 (up nx_217 (mv (q1 * 7 + l8)) (f71_81 l8)) (l8 + 1) ⟨h19_52, h20_52, h21_52, hc52, hb_52, hbl_46, hb3_46⟩ hF52 hg52 hla65_52 hla71_52 (by first | assumption | omega) (by intro p hp; by_cases e : p = l8; (subst e; exact up_s _ _ _); (rw [up_n (fun q => e ((hy0 q1 (by omega)).2 p l8 (by omega) (by omega) q))]; exact hv217_1 p (by omega))) (by omega))
                  exact J_sub (L' := [some (.ref 19), some (.int (nI q15)), some (.int (nI q1)), some (.int (nI k24)), some (.int (nI q8)), some (.ref a65), some (.ref a71), some (.int (nI y7)), some (.int (nI 0)), none]) ⟨rfl, ⟨rfl, ⟨rfl, ⟨rfl, ⟨rfl, ⟨rfl, ⟨rfl, ⟨rfl, ⟨rfl, trivial⟩⟩⟩⟩⟩⟩⟩⟩⟩ (lp217_38 _ w28 nx20 0 ⟨h19_35, h20_35, h21_35, h22_35, hb_35, hbl_35, hb3_35⟩ hF30 hgnx20 hl32 hl33 (by first | assumption | omega) (by intro p hp; omega) (Nat.lt_succ_self _))
                · refine J_iconst (pc := 90) (v := nI 0) dX8_nth_90 (by decide) ?_
                  refine J_istore (pc := 91) dX8_nth_91 (by decide) rfl ?_
                  show J X mX8_nth d (kc - 13 - 1 - 1) (ks - 2054 - 7 - 7) 93 [some (.ref 19), some (.int (nI q15)), some (.int (nI q1)), some (.int (nI k24)), some (.int (nI q8)), some (.ref a65), some (.ref a71), some (.int (nI y7)), some (.int (nI c8)), some (.int (nI 0))] [] w28 _
                  have lp93_53 : ∀ (fuel : Nat) (w54 : List jC) (f65_93 : Nat → Nat) (p9 : Nat), (RM n mv rw_81 nx20 b20 bt20 kn20 en20 dn rf kk (nI (tW 0 0)) w54) → (FR b b20 w w54) → (w54[a65]? = some (aF 7 f65_93)) → (w54[a71]? = some (aF 7 f71_81)) → (p9 ≤ n) → (∀ p, p < p9 → f65_93 p = 0) → (n - p9 < fuel) → J X mX8_nth d (kc - 13 - 1 - 1) (ks - 2054 - 7 - 7) 93 [some (.ref 19), some (.int (nI q15)), some (.int (nI q1)), some (.int (nI k24)), some (.int (nI q8)), some (.ref a65), some (.ref a71), some (.int (nI y7)), some (.int (nI c8)), some (.int (nI p9))] [] w54 (pJ (fun v w' => ∃ (mv' : Nat → Nat), ∃ (rw' : Nat → Nat), ∃ (nx' : Nat → Nat), ∃ (b' : Nat), ∃ (bt' : List Int32), ∃ (kn' : Int32), ∃ (en' : Int32), ∃ (dn' : Int32), ∃ (rf' : Int32), ∃ (th' : Int32), RM n mv' rw' nx' b' bt' kn' en' dn' rf' kk th' w' ∧ FR b b' w w' ∧ (∀ i, mv' i < 7) ∧ (∀ i, rw' i < 7) ∧ (∀ i, nx' i < 7) ∧ PM n mv' ∧ ((th' = nI 1 ∧ ¬ (isN (nI q1) 6 ∧ isN (nI q8) 6) ∧ mv' = mv ∧ KX n mv kn' bt' ∧ dn' = dn ∧ rf' = rf) ∨ (th' = nI 2 ∧ (isN (nI q1) 6 ∧ isN (nI q8) 6) ∧ ¬ (isN (nI q15) 64 ∧ 0 ≤ (nI k24)) ∧ mv' = mv ∧ KX n mv kn' bt' ∧ dn' = dn ∧ rf' = rf) ∨ (th' = nI 0 ∧ (∃ s1 a1 c1 rk y : Nat, (nI q15) = nI s1 ∧ (nI q1) = nI a1 ∧ (nI q8) = nI c1 ∧ (nI k24) = nI rk ∧ s1 < 64 ∧ a1 < 6 ∧ c1 < 6 ∧ rk < 2 ^ 31 ∧ rk < cd n (Gg n (gS (mW n mv) s1 6)) ∧ Mv n y ∧ GK n (Gg n (gS (mW n mv) s1 6)) (fun j => mv (a1 * 7 + j)) rk y ∧ ACT n mv c1 (d8 y) mv' ∧ v = nI (nuF (d8 y) 0 n n)) ∧ kn' = (-1) ∧ dn' = (dn + nI 1) ∧ rf' = rf) ∨ (th' = nI 0 ∧ (∃ s1 a1 c1 rk : Nat, (nI q15) = nI s1 ∧ (nI q1) = nI a1 ∧ (nI q8) = nI c1 ∧ (nI k24) = nI rk ∧ s1 < 64 ∧ a1 < 6 ∧ c1 < 6 ∧ rk < 2 ^ 31 ∧ ¬ rk < cd n (Gg n (gS (mW n mv) s1 6)) ∧ v = (-9)) ∧ mv' = mv ∧ KX n mv kn' bt' ∧ dn' = dn ∧ rf' = (rf + nI 1))))) := by
                    intro fuellp93_53
                    induction fuellp93_53 with
                    | zero => intros; omega
                    | succ fuellp93_53 ihlp93_53 =>
                      intro w54 f65_93 p9 hR55 hF56 hl57 hl58 hv93_0 hv93_1 hf59
                      obtain ⟨h19_60, h20_60, h21_60, h22_60, hb_60, hbl_60, hb3_60⟩ := hR55
                      refine J_iload (pc := 93) dX8_nth_93 rfl ?_
                      refine J_aload_n (pc := 95) dX8_nth_95 rfl rfl rfl ?_
                      refine J_get (pc := 96) (k := 0) dX8_nth_96 kC9 (by decide) ff_X8_7 h19_60 rfl ?_
                      refine J_icmp_geN (pc := 99) (tgt := 114) dX8_nth_99 (by decide) (by omega) (by omega) (fun ht61 => ?_) (fun hf62 => ?_)
                      · refine J_aload_n (pc := 114) dX8_nth_114 rfl rfl rfl ?_
                        refine J_iconst (pc := 115) (v := nI 0) dX8_nth_115 (by decide) ?_
                        refine J_callV0 (pc := 116) (M := mX8_nth) (as := [.int (nI 0)]) dX8_nth_116 fw_X8_from fl_X8_137 fm_X8_from fe_X8_from h19_60 (by decide) rfl rfl rfl (c_X8_from hs (d := d - 1) (Nat.le_trans (by decide) hdm) (w := w54) (n := n) (mv := mv) (rw := rw_81) (nx := nx20) (b := b20) (bt := bt20) (kn := kn20) (en := en20) (dn := dn) (rf := rf) (kk := kk) (th := nI (tW 0 0)) ⟨h19_60, h20_60, h21_60, h22_60, hb_60, hbl_60, hb3_60⟩ hn1 hn2 gm gr31 hgnx20 0 (by first | assumption | omega) (kc := 0) (ks := 0)) hdp (st := []) (Nat.le_of_ble_eq_true rfl) rfl (kr_P fun v63 hv63 => ?_) kx_I
                        rcases hv63 with ⟨rfl, hk63_0⟩ | ⟨q63, rfl, hk63_0, hk63_1, hk63_2, hk63_3⟩
                        · refine J_istore (pc := 119) dX8_nth_119 (by decide) rfl ?_
                          show J X mX8_nth d (kc - 13 - 1 - 1) (ks - 2054 - 7 - 7) 121 [some (.ref 19), some (.int (nI q15)), some (.int (nI q1)), some (.int (nI k24)), some (.int (nI q8)), some (.ref a65), some (.ref a71), some (.int (nI y7)), some (.int (nI c8)), some (.int (-1))] [] w54 _
                          have lp121_64 : ∀ (fuel : Nat) (w65 : List jC) (rw_121 : Nat → Nat) (f65_121 : Nat → Nat) (k9 : Nat), (RM n mv rw_121 nx20 b20 bt20 kn20 en20 dn rf kk (nI (tW 0 0)) w65) → (FR b b20 w w65) → (∀ i, rw_121 i < 7) → (w65[a65]? = some (aF 7 f65_121)) → (w65[a71]? = some (aF 7 f71_81)) → (k9 ≤ fc n) → (∀ v, v < n → f65_121 v = nw n bt20 (fun j => mv (q1 * 7 + j)) f71_81 c8 v (KK (fc n) k9)) → (0 < k9 → bitL bt20 (k9 - 1) = true) → (mu (fc n) k9 < fuel) → J X mX8_nth d (kc - 13 - 1 - 1) (ks - 2054 - 7 - 7) 121 [some (.ref 19), some (.int (nI q15)), some (.int (nI q1)), some (.int (nI k24)), some (.int (nI q8)), some (.ref a65), some (.ref a71), some (.int (nI y7)), some (.int (nI c8)), some (.int (nI k9 + Int32.ofInt (-1)))] [] w65 (pJ (fun v w' => ∃ (mv' : Nat → Nat), ∃ (rw' : Nat → Nat), ∃ (nx' : Nat → Nat), ∃ (b' : Nat), ∃ (bt' : List Int32), ∃ (kn' : Int32), ∃ (en' : Int32), ∃ (dn' : Int32), ∃ (rf' : Int32), ∃ (th' : Int32), RM n mv' rw' nx' b' bt' kn' en' dn' rf' kk th' w' ∧ FR b b' w w' ∧ (∀ i, mv' i < 7) ∧ (∀ i, rw' i < 7) ∧ (∀ i, nx' i < 7) ∧ PM n mv' ∧ ((th' = nI 1 ∧ ¬ (isN (nI q1) 6 ∧ isN (nI q8) 6) ∧ mv' = mv ∧ KX n mv kn' bt' ∧ dn' = dn ∧ rf' = rf) ∨ (th' = nI 2 ∧ (isN (nI q1) 6 ∧ isN (nI q8) 6) ∧ ¬ (isN (nI q15) 64 ∧ 0 ≤ (nI k24)) ∧ mv' = mv ∧ KX n mv kn' bt' ∧ dn' = dn ∧ rf' = rf) ∨ (th' = nI 0 ∧ (∃ s1 a1 c1 rk y : Nat, (nI q15) = nI s1 ∧ (nI q1) = nI a1 ∧ (nI q8) = nI c1 ∧ (nI k24) = nI rk ∧ s1 < 64 ∧ a1 < 6 ∧ c1 < 6 ∧ rk < 2 ^ 31 ∧ rk < cd n (Gg n (gS (mW n mv) s1 6)) ∧ Mv n y ∧ GK n (Gg n (gS (mW n mv) s1 6)) (fun j => mv (a1 * 7 + j)) rk y ∧ ACT n mv c1 (d8 y) mv' ∧ v = nI (nuF (d8 y) 0 n n)) ∧ kn' = (-1) ∧ dn' = (dn + nI 1) ∧ rf' = rf) ∨ (th' = nI 0 ∧ (∃ s1 a1 c1 rk : Nat, (nI q15) = nI s1 ∧ (nI q1) = nI a1 ∧ (nI q8) = nI c1 ∧ (nI k24) = nI rk ∧ s1 < 64 ∧ a1 < 6 ∧ c1 < 6 ∧ rk < 2 ^ 31 ∧ ¬ rk < cd n (Gg n (gS (mW n mv) s1 6)) ∧ v = (-9)) ∧ mv' = mv ∧ KX n mv kn' bt' ∧ dn' = dn ∧ rf' = (rf + nI 1))))) := by
                            intro fuellp121_64
                            induction fuellp121_64 with
                            | zero => intros; omega
                            | succ fuellp121_64 ihlp121_64 =>
                              intro w65 rw_121 f65_121 k9 hR66 hF67 gr68 hl69 hl70 hv121_0 hv121_1 hv121_2 hf71
                              obtain ⟨h19_72, h20_72, h21_72, h22_72, hb_72, hbl_72, hb3_72⟩ := hR66
                              refine J_iload (pc := 121) dX8_nth_121 rfl ?_
                              refine J_if_ltM (pc := 123) (tgt := 172) dX8_nth_123 (by decide) (by omega) (fun ht73 => ?_) (fun hf74 => ?_)
                              · have hW : ∀ v, v < n → f65_121 v = nw n bt20 (fun j => mv (q1 * 7 + j)) f71_81 c8 v (fc n) := by
                                  intro v hv
                                  have h := hv121_1 v hv
                                  rw [show k9 = 0 by omega, KK_0] at h
                                  exact h
                                refine J_iconst (pc := 172) (v := nI 0) dX8_nth_172 (by decide) ?_
                                refine J_istore (pc := 173) dX8_nth_173 (by decide) rfl ?_
                                show J X mX8_nth d (kc - 13 - 1 - 1) (ks - 2054 - 7 - 7) 175 [some (.ref 19), some (.int (nI q15)), some (.int (nI q1)), some (.int (nI k24)), some (.int (nI q8)), some (.ref a65), some (.ref a71), some (.int (nI y7)), some (.int (nI c8)), some (.int (nI 0))] [] w65 _
                                have lp175_75 : ∀ (fuel : Nat) (x7 : Nat) (q9 : Nat), (x7 < sT f65_121 (n - q9) q9) → (x7 < 5056) → (y7 = sm f65_121 q9 + x7) → (n - q9 < fuel) → J X mX8_nth d (kc - 13 - 1 - 1) (ks - 2054 - 7 - 7) 175 [some (.ref 19), some (.int (nI q15)), some (.int (nI q1)), some (.int (nI k24)), some (.int (nI q8)), some (.ref a65), some (.ref a71), some (.int (nI x7)), some (.int (nI c8)), some (.int (nI q9))] [] w65 (pJ (fun v w' => ∃ (mv' : Nat → Nat), ∃ (rw' : Nat → Nat), ∃ (nx' : Nat → Nat), ∃ (b' : Nat), ∃ (bt' : List Int32), ∃ (kn' : Int32), ∃ (en' : Int32), ∃ (dn' : Int32), ∃ (rf' : Int32), ∃ (th' : Int32), RM n mv' rw' nx' b' bt' kn' en' dn' rf' kk th' w' ∧ FR b b' w w' ∧ (∀ i, mv' i < 7) ∧ (∀ i, rw' i < 7) ∧ (∀ i, nx' i < 7) ∧ PM n mv' ∧ ((th' = nI 1 ∧ ¬ (isN (nI q1) 6 ∧ isN (nI q8) 6) ∧ mv' = mv ∧ KX n mv kn' bt' ∧ dn' = dn ∧ rf' = rf) ∨ (th' = nI 2 ∧ (isN (nI q1) 6 ∧ isN (nI q8) 6) ∧ ¬ (isN (nI q15) 64 ∧ 0 ≤ (nI k24)) ∧ mv' = mv ∧ KX n mv kn' bt' ∧ dn' = dn ∧ rf' = rf) ∨ (th' = nI 0 ∧ (∃ s1 a1 c1 rk y : Nat, (nI q15) = nI s1 ∧ (nI q1) = nI a1 ∧ (nI q8) = nI c1 ∧ (nI k24) = nI rk ∧ s1 < 64 ∧ a1 < 6 ∧ c1 < 6 ∧ rk < 2 ^ 31 ∧ rk < cd n (Gg n (gS (mW n mv) s1 6)) ∧ Mv n y ∧ GK n (Gg n (gS (mW n mv) s1 6)) (fun j => mv (a1 * 7 + j)) rk y ∧ ACT n mv c1 (d8 y) mv' ∧ v = nI (nuF (d8 y) 0 n n)) ∧ kn' = (-1) ∧ dn' = (dn + nI 1) ∧ rf' = rf) ∨ (th' = nI 0 ∧ (∃ s1 a1 c1 rk : Nat, (nI q15) = nI s1 ∧ (nI q1) = nI a1 ∧ (nI q8) = nI c1 ∧ (nI k24) = nI rk ∧ s1 < 64 ∧ a1 < 6 ∧ c1 < 6 ∧ rk < 2 ^ 31 ∧ ¬ rk < cd n (Gg n (gS (mW n mv) s1 6)) ∧ v = (-9)) ∧ mv' = mv ∧ KX n mv kn' bt' ∧ dn' = dn ∧ rf' = (rf + nI 1))))) := by
                                  intro fuellp175_75
                                  induction fuellp175_75 with
                                  | zero => intros; omega
                                  | succ fuellp175_75 ihlp175_75 =>
                                    intro x7 q9 hv175_0 hv175_1 hv175_2 hf76
                                    have hpn := nth_p hv175_0
                                    have ha65 := hW q9 hpn
                                    have hnl := @nw_le n bt20 (fun j => mv (q1 * 7 + j)) f71_81 c8 q9 (fc n)
                                    refine J_iload (pc := 175) dX8_nth_175 rfl ?_
                                    refine J_aload (pc := 177) dX8_nth_177 rfl rfl ?_
                                    refine J_iload (pc := 179) dX8_nth_179 rfl ?_
                                    refine J_ialdF (pc := 181) dX8_nth_181 hl69 (by omega) (by decide) ?_
                                    refine J_icmp_ltN (pc := 182) (tgt := 201) dX8_nth_182 (by decide) (by omega) (by omega) (fun ht77 => ?_) (fun hf78 => ?_)
                                    · refine J_aload (pc := 201) dX8_nth_201 rfl rfl ?_
                                      refine J_iload (pc := 203) dX8_nth_203 rfl ?_
                                      refine J_iload (pc := 205) dX8_nth_205 rfl ?_
                                      refine J_iastF (pc := 207) dX8_nth_207 hl70 (by omega) (by decide) (fun w79 hln79 hc79 hne79 => ?_)
                                      have h19_79 := (hne79 19 (by omega)).trans h19_72
                                      have h20_79 := (hne79 20 (by omega)).trans h20_72
                                      have h21_79 := (hne79 21 (by omega)).trans h21_72
                                      have h22_79 := (hne79 22 (by omega)).trans h22_72
                                      have hb_79 := (hne79 _ (by omega)).trans hb_72
                                      have hla65_79 := (hne79 a65 (by omega)).trans hl69
                                      have hF79 := hF67.st hln79 hne79 (Or.inr (Or.inr (by omega)))
                                      refine J_iincN (pc := 208) (b := 1) dX8_nth_208 rfl (by decide) (by decide) rfl ?_
                                      show J X mX8_nth d (kc - 13 - 1 - 1) (ks - 2054 - 7 - 7) 211 [some (.ref 19), some (.int (nI q15)), some (.int (nI q1)), some (.int (nI k24)), some (.int (nI q8)), some (.ref a65), some (.ref a71), some (.int (nI x7)), some (.int (nI (c8 + 1))), some (.int (nI q9))] [] w79 _
                                      refine J_goto (pc := 211) (tgt := 81) dX8_nth_211 (by decide) ?_
                                      exact J_sub (L' := [some (.ref 19), some (.int (nI q15)), some (.int (nI q1)), some (.int (nI k24)), some (.int (nI q8)), some (.ref a65), some (.ref a71), some (.int (nI x7)), some (.int (nI (c8 + 1))), none]) ⟨rfl, ⟨rfl, ⟨rfl, ⟨rfl, ⟨rfl, ⟨rfl, ⟨rfl, ⟨rfl, ⟨rfl, trivial⟩⟩⟩⟩⟩⟩⟩⟩⟩ (ihlp81_27 w79 rw_121 f65_121 (up f71_81 c8 q9) x7 (c8 + 1) ⟨h19_79, h20_79, h21_79, h22_79, hb_79, hbl_72, hb3_72⟩ hF79 gr68 hla65_79 hc79 (by first | assumption | omega) (by exact up_b hv81_1 (by omega)) (by exact nth_next hpn hW (by assumption)) (by first | assumption | omega) (by exact LF_s (f := (fun j => mv (q1 * 7 + j))) hv81_4 hpn hW hv175_2 (by assumption)) (by omega))
                                    · refine J_iload (pc := 185) dX8_nth_185 rfl ?_
                                      refine J_aload (pc := 187) dX8_nth_187 rfl rfl ?_
                                      refine J_iload (pc := 189) dX8_nth_189 rfl ?_
                                      refine J_ialdF (pc := 191) dX8_nth_191 hl69 (by omega) (by decide) ?_
                                      refine J_isubN (pc := 192) dX8_nth_192 (by omega) ?_
                                      refine J_istore (pc := 193) dX8_nth_193 (by decide) rfl ?_
                                      show J X mX8_nth d (kc - 13 - 1 - 1) (ks - 2054 - 7 - 7) 195 [some (.ref 19), some (.int (nI q15)), some (.int (nI q1)), some (.int (nI k24)), some (.int (nI q8)), some (.ref a65), some (.ref a71), some (.int (nI (x7 - (f65_121 q9)))), some (.int (nI c8)), some (.int (nI q9))] [] w65 _
                                      refine J_iincN (pc := 195) (b := 1) dX8_nth_195 rfl (by decide) (by decide) rfl ?_
                                      show J X mX8_nth d (kc - 13 - 1 - 1) (ks - 2054 - 7 - 7) 198 [some (.ref 19), some (.int (nI q15)), some (.int (nI q1)), some (.int (nI k24)), some (.int (nI q8)), some (.ref a65), some (.ref a71), some (.int (nI (x7 - (f65_121 q9)))), some (.int (nI c8)), some (.int (nI (q9 + 1)))] [] w65 _
                                      refine J_goto (pc := 198) (tgt := 175) dX8_nth_198 (by decide) ?_
                                      exact J_sub (L' := [some (.ref 19), some (.int (nI q15)), some (.int (nI q1)), some (.int (nI k24)), some (.int (nI q8)), some (.ref a65), some (.ref a71), some (.int (nI (x7 - (f65_121 q9)))), some (.int (nI c8)), some (.int (nI (q9 + 1)))]) ⟨rfl, ⟨rfl, ⟨rfl, ⟨rfl, ⟨rfl, ⟨rfl, ⟨rfl, ⟨rfl, ⟨rfl, ⟨rfl, trivial⟩⟩⟩⟩⟩⟩⟩⟩⟩⟩ (ihlp175_75 (x7 - (f65_121 q9)) (q9 + 1) (by exact nth_s hv175_0 (by omega)) (by first | assumption | omega) (by rw [hv175_2]; show _ = sm _ q9 + _ + _; omega) (by omega))
                                exact J_sub (L' := [some (.ref 19), some (.int (nI q15)), some (.int (nI q1)), some (.int (nI k24)), some (.int (nI q8)), some (.ref a65), some (.ref a71), some (.int (nI y7)), some (.int (nI c8)), some (.int (nI 0))]) ⟨rfl, ⟨rfl, ⟨rfl, ⟨rfl, ⟨rfl, ⟨rfl, ⟨rfl, ⟨rfl, ⟨rfl, ⟨rfl, trivial⟩⟩⟩⟩⟩⟩⟩⟩⟩⟩ (lp175_75 _ y7 0 (by exact nth_st (f := (fun j => mv (q1 * 7 + j))) (lv := c8) (by omega) ((hy0 q1 (by omega)).1 c8 (by omega)) hW hv81_2) (by first | assumption | omega) (by show y7 = 0 + y7; rw [Nat.zero_add]) (Nat.lt_succ_self _))
                              · rw [nI_m1 hf74]
                                have hb126 := hv121_2 (by omega)
                                have hprev : ∀ v, v < n → f65_121 v = nw n bt20 (fun j => mv (q1 * 7 + j)) f71_81 c8 v (k9 - 1) := by
                                  intro v hv
                                  have h := hv121_1 v hv
                                  rw [KK_p (by omega)] at h
                                  exact h
                                refine J_aload_n (pc := 126) dX8_nth_126 rfl rfl rfl ?_
                                refine J_iload (pc := 127) dX8_nth_127 rfl ?_
                                refine J_iload_n (pc := 129) dX8_nth_129 rfl rfl ?_
                                refine J_iload (pc := 130) dX8_nth_130 rfl ?_
                                refine J_aload (pc := 132) dX8_nth_132 rfl rfl ?_
                                refine J_callV0 (pc := 134) (M := mX8_nth) (as := [.int (nI (k9 - 1)), .int (nI q1), .int (nI c8), .ref a71]) dX8_nth_134 fw_X8_isSuch fl_X8_140 fm_X8_isSuch fe_X8_isSuch h19_72 (by decide) rfl rfl rfl (c_X8_isSuch hs (d := d - 1) (Nat.le_trans (by decide) hdm) (w := w65) (n := n) (mv := mv) (rw := rw_121) (nx := nx20) (b := b20) (bt := bt20) (kn := kn20) (en := en20) (dn := dn) (rf := rf) (kk := kk) (th := nI (tW 0 0)) ⟨h19_72, h20_72, h21_72, h22_72, hb_72, hbl_72, hb3_72⟩ hn1 hn2 gm gr68 hgnx20 (k9 - 1) q1 c8 a71 f71_81 hl70 (by first | assumption | omega) (by first | assumption | omega) (by first | assumption | omega) (by first | assumption | omega) (by first | assumption | omega) (by first | assumption | omega) (by first | assumption | omega) (kc := 0) (ks := 0)) hdp (st := []) (Nat.le_of_ble_eq_true rfl) rfl (kr_I fun v80 w80 hv80 hw80 => ?_) kx_I
                                obtain ⟨rw80, hR80, hFc80, hgrw80, hp80_0⟩ := hw80
                                obtain ⟨h19_80, h20_80, h21_80, h22_80, hbb_80, hbl_80, hb3_80⟩ := hR80
                                have hla65_80 := hFc80.at hl69 (by omega) (by omega)
                                have hla71_80 := hFc80.at hl70 (by omega) (by omega)
                                have hF80 := hF67.tr hFc80
                                have hF7 : mv (q1 * 7 + c8) < n := (hy0 q1 (by omega)).1 c8 (by omega)
                                have hrv := hp80_0 _ hF7
                                rcases hv80 with ⟨rfl, hk80_0⟩ | ⟨rfl, hk80_0⟩
                                · refine J_if_eqN (pc := 137) (tgt := 159) dX8_nth_137 (by decide) (by decide) (fun _ => ?_) (fun h => absurd h (by decide))
                                  have hz126 : ∀ v, v < n → (f65_121) v = nw n bt20 (fun j => mv (q1 * 7 + j)) f71_81 c8 v (k9 - 1 + 1) := by
                                    first
                                    | (rw [hrv]; exact nw_s1 (f := (fun j => mv (q1 * 7 + j))) (lv := c8) hb126 (by assumption) hprev)
                                    | (intro v hv; rw [nw_s0 (by assumption)]; exact hprev v hv)
                                  refine J_aload_n (pc := 159) dX8_nth_159 rfl rfl rfl ?_
                                  refine J_iload (pc := 160) dX8_nth_160 rfl ?_
                                  refine J_iconst (pc := 162) (v := nI 1) dX8_nth_162 (by decide) ?_
                                  refine J_iaddN (pc := 163) dX8_nth_163 ?_
                                  refine J_callV0 (pc := 164) (M := mX8_nth) (as := [.int (nI ((k9 - 1) + 1))]) dX8_nth_164 fw_X8_from fl_X8_137 fm_X8_from fe_X8_from h19_80 (by decide) rfl rfl rfl (c_X8_from hs (d := d - 1) (Nat.le_trans (by decide) hdm) (w := w80) (n := n) (mv := mv) (rw := rw80) (nx := nx20) (b := b20) (bt := bt20) (kn := kn20) (en := en20) (dn := dn) (rf := rf) (kk := kk) (th := nI (tW 0 0)) ⟨h19_80, h20_80, h21_80, h22_80, hbb_80, hbl_80, hb3_80⟩ hn1 hn2 gm hgrw80 hgnx20 ((k9 - 1) + 1) (by first | assumption | omega) (kc := 0) (ks := 0)) hdp (st := []) (Nat.le_of_ble_eq_true rfl) rfl (kr_P fun v81 hv81 => ?_) kx_I
                                  rcases hv81 with ⟨rfl, hk81_0⟩ | ⟨q81, rfl, hk81_0, hk81_1, hk81_2, hk81_3⟩
                                  · refine J_istore (pc := 167) dX8_nth_167 (by decide) rfl ?_
                                    show J X mX8_nth d (kc - 13 - 1 - 1) (ks - 2054 - 7 - 7) 169 [some (.ref 19), some (.int (nI q15)), some (.int (nI q1)), some (.int (nI k24)), some (.int (nI q8)), some (.ref a65), some (.ref a71), some (.int (nI y7)), some (.int (nI c8)), some (.int (-1))] [] w80 _
                                    refine J_goto (pc := 169) (tgt := 121) dX8_nth_169 (by decide) ?_
                                    exact J_sub (L' := [some (.ref 19), some (.int (nI q15)), some (.int (nI q1)), some (.int (nI k24)), some (.int (nI q8)), some (.ref a65), some (.ref a71), some (.int (nI y7)), some (.int (nI c8)), some (.int (nI 0 + Int32.ofInt (-1)))]) ⟨rfl, ⟨rfl, ⟨rfl, ⟨rfl, ⟨rfl, ⟨rfl, ⟨rfl, ⟨rfl, ⟨rfl, ⟨(congrArg (fun z => some (Value.int z)) (by decide : (-1 : Int32) = nI 0 + Int32.ofInt (-1))), trivial⟩⟩⟩⟩⟩⟩⟩⟩⟩⟩ (ihlp121_64 w80 rw80 f65_121 0 ⟨h19_80, h20_80, h21_80, h22_80, hbb_80, hbl_80, hb3_80⟩ hF80 hgrw80 hla65_80 hla71_80 (by first | assumption | omega) (by first | exact nw_t0 (c := k9 - 1 + 1) (by omega) hz126 (by assumption) | exact nw_t1 (c := k9 - 1 + 1) (by omega) hz126 (by assumption)) (by intro h; first | (rw [Nat.add_sub_cancel]; assumption) | omega) (by exact mu_dec (by assumption) (by omega) (by omega) (by omega)))
                                  · refine J_istore (pc := 167) dX8_nth_167 (by decide) rfl ?_
                                    show J X mX8_nth d (kc - 13 - 1 - 1) (ks - 2054 - 7 - 7) 169 [some (.ref 19), some (.int (nI q15)), some (.int (nI q1)), some (.int (nI k24)), some (.int (nI q8)), some (.ref a65), some (.ref a71), some (.int (nI y7)), some (.int (nI c8)), some (.int (nI q81))] [] w80 _
                                    refine J_goto (pc := 169) (tgt := 121) dX8_nth_169 (by decide) ?_
                                    exact J_sub (L' := [some (.ref 19), some (.int (nI q15)), some (.int (nI q1)), some (.int (nI k24)), some (.int (nI q8)), some (.ref a65), some (.ref a71), some (.int (nI y7)), some (.int (nI c8)), some (.int (nI (q81 + 1) + Int32.ofInt (-1)))]) ⟨rfl, ⟨rfl, ⟨rfl, ⟨rfl, ⟨rfl, ⟨rfl, ⟨rfl, ⟨rfl, ⟨rfl, ⟨(congrArg (fun z => some (Value.int z)) (nI_n1 q81)), trivial⟩⟩⟩⟩⟩⟩⟩⟩⟩⟩ (ihlp121_64 w80 rw80 f65_121 (q81 + 1) ⟨h19_80, h20_80, h21_80, h22_80, hbb_80, hbl_80, hb3_80⟩ hF80 hgrw80 hla65_80 hla71_80 (by first | assumption | omega) (by first | exact nw_t0 (c := k9 - 1 + 1) (by omega) hz126 (by assumption) | exact nw_t1 (c := k9 - 1 + 1) (by omega) hz126 (by assumption)) (by intro h; first | (rw [Nat.add_sub_cancel]; assumption) | omega) (by exact mu_dec (by assumption) (by omega) (by omega) (by omega)))
                                · refine J_if_eqN (pc := 137) (tgt := 159) dX8_nth_137 (by decide) (by decide) (fun h => absurd h (by decide)) (fun _ => ?_)
                                  refine J_aload (pc := 140) dX8_nth_140 rfl rfl ?_
                                  refine J_aload_n (pc := 142) dX8_nth_142 rfl rfl rfl ?_
                                  refine J_get (pc := 143) (k := 2) dX8_nth_143 kC9 (by decide) ff_X8_17 h19_80 rfl ?_
                                  refine J_aload_n (pc := 146) dX8_nth_146 rfl rfl rfl ?_
                                  refine J_iload_n (pc := 147) dX8_nth_147 rfl rfl ?_
                                  refine J_iload (pc := 148) dX8_nth_148 rfl ?_
                                  refine J_callV0 (pc := 150) (M := mX8_nth) (as := [.int (nI q1), .int (nI c8)]) dX8_nth_150 fw_X8_at fl_X8_82 fm_X8_at fe_X8_at h19_80 (by decide) rfl rfl rfl (c_X8_at hs (d := d - 1) (Nat.le_trans (by decide) hdm) (w := w80) (n := n) (mv := mv) (rw := rw80) (nx := nx20) (b := b20) (bt := bt20) (kn := kn20) (en := en20) (dn := dn) (rf := rf) (kk := kk) (th := nI (tW 0 0)) ⟨h19_80, h20_80, h21_80, h22_80, hbb_80, hbl_80, hb3_80⟩ hn1 hn2 gm hgrw80 hgnx20 q1 c8 (by first | assumption | omega) (by first | assumption | omega) (kc := 0) (ks := 0)) hdp (st := [.ref 21, .ref a65]) (Nat.le_of_ble_eq_true rfl) rfl (kr_P fun v82 hv82 => ?_) kx_I
                                  subst hv82
                                  have hq83 := gm (q1 * 7 + c8)
                                  refine J_ialdF (pc := 153) dX8_nth_153 h21_80 (by omega) (by decide) ?_
                                  have hq84 := hgrw80 (mv (q1 * 7 + c8))
                                  refine J_dup2 (pc := 154) dX8_nth_154 rfl rfl ?_
                                  refine J_ialdF (pc := 155) dX8_nth_155 hla65_80 (by omega) (by decide) ?_
                                  refine J_iconst (pc := 156) (v := nI 1) dX8_nth_156 (by decide) ?_
                                  refine J_iaddN (pc := 157) dX8_nth_157 ?_
                                  refine J_iastF (pc := 158) dX8_nth_158 hla65_80 (by omega) (by decide) (fun w85 hln85 hc85 hne85 => ?_)
                                  have h19_85 := (hne85 19 (by omega)).trans h19_80
                                  have h20_85 := (hne85 20 (by omega)).trans h20_80
                                  have h21_85 := (hne85 21 (by omega)).trans h21_80
                                  have h22_85 := (hne85 22 (by omega)).trans h22_80
                                  have hb_85 := (hne85 _ (by omega)).trans hbb_80
                                  have hla71_85 := (hne85 a71 (by omega)).trans hla71_80
                                  have hF85 := hF80.st hln85 hne85 (Or.inr (Or.inr (by omega)))
                                  have hz126 : ∀ v, v < n → (up f65_121 (rw80 (mv (q1 * 7 + c8))) ((f65_121 (rw80 (mv (q1 * 7 + c8)))) + 1)) v = nw n bt20 (fun j => mv (q1 * 7 + j)) f71_81 c8 v (k9 - 1 + 1) := by
                                    first
                                    | (rw [hrv]; exact nw_s1 (f := (fun j => mv (q1 * 7 + j))) (lv := c8) hb126 (by assumption) hprev)
                                    | (intro v hv; rw [nw_s0 (by assumption)]; exact hprev v hv)
                                  refine J_aload_n (pc := 159) dX8_nth_159 rfl rfl rfl ?_
                                  refine J_iload (pc := 160) dX8_nth_160 rfl ?_
                                  refine J_iconst (pc := 162) (v := nI 1) dX8_nth_162 (by decide) ?_
                                  refine J_iaddN (pc := 163) dX8_nth_163 ?_
                                  refine J_callV0 (pc := 164) (M := mX8_nth) (as := [.int (nI ((k9 - 1) + 1))]) dX8_nth_164 fw_X8_from fl_X8_137 fm_X8_from fe_X8_from h19_85 (by decide) rfl rfl rfl (c_X8_from hs (d := d - 1) (Nat.le_trans (by decide) hdm) (w := w85) (n := n) (mv := mv) (rw := rw80) (nx := nx20) (b := b20) (bt := bt20) (kn := kn20) (en := en20) (dn := dn) (rf := rf) (kk := kk) (th := nI (tW 0 0)) ⟨h19_85, h20_85, h21_85, h22_85, hb_85, hbl_80, hb3_80⟩ hn1 hn2 gm hgrw80 hgnx20 ((k9 - 1) + 1) (by first | assumption | omega) (kc := 0) (ks := 0)) hdp (st := []) (Nat.le_of_ble_eq_true rfl) rfl (kr_P fun v86 hv86 => ?_) kx_I
                                  rcases hv86 with ⟨rfl, hk86_0⟩ | ⟨q86, rfl, hk86_0, hk86_1, hk86_2, hk86_3⟩
                                  · refine J_istore (pc := 167) dX8_nth_167 (by decide) rfl ?_
                                    show J X mX8_nth d (kc - 13 - 1 - 1) (ks - 2054 - 7 - 7) 169 [some (.ref 19), some (.int (nI q15)), some (.int (nI q1)), some (.int (nI k24)), some (.int (nI q8)), some (.ref a65), some (.ref a71), some (.int (nI y7)), some (.int (nI c8)), some (.int (-1))] [] w85 _
                                    refine J_goto (pc := 169) (tgt := 121) dX8_nth_169 (by decide) ?_
                                    exact J_sub (L' := [some (.ref 19), some (.int (nI q15)), some (.int (nI q1)), some (.int (nI k24)), some (.int (nI q8)), some (.ref a65), some (.ref a71), some (.int (nI y7)), some (.int (nI c8)), some (.int (nI 0 + Int32.ofInt (-1)))]) ⟨rfl, ⟨rfl, ⟨rfl, ⟨rfl, ⟨rfl, ⟨rfl, ⟨rfl, ⟨rfl, ⟨rfl, ⟨(congrArg (fun z => some (Value.int z)) (by decide : (-1 : Int32) = nI 0 + Int32.ofInt (-1))), trivial⟩⟩⟩⟩⟩⟩⟩⟩⟩⟩ (ihlp121_64 w85 rw80 (up f65_121 (rw80 (mv (q1 * 7 + c8))) ((f65_121 (rw80 (mv (q1 * 7 + c8)))) + 1)) 0 ⟨h19_85, h20_85, h21_85, h22_85, hb_85, hbl_80, hb3_80⟩ hF85 hgrw80 hc85 hla71_85 (by first | assumption | omega) (by first | exact nw_t0 (c := k9 - 1 + 1) (by omega) hz126 (by assumption) | exact nw_t1 (c := k9 - 1 + 1) (by omega) hz126 (by assumption)) (by intro h; first | (rw [Nat.add_sub_cancel]; assumption) | omega) (by exact mu_dec (by assumption) (by omega) (by omega) (by omega)))
                                  · refine J_istore (pc := 167) dX8_nth_167 (by decide) rfl ?_
                                    show J X mX8_nth d (kc - 13 - 1 - 1) (ks - 2054 - 7 - 7) 169 [some (.ref 19), some (.int (nI q15)), some (.int (nI q1)), some (.int (nI k24)), some (.int (nI q8)), some (.ref a65), some (.ref a71), some (.int (nI y7)), some (.int (nI c8)), some (.int (nI q86))] [] w85 _
                                    refine J_goto (pc := 169) (tgt := 121) dX8_nth_169 (by decide) ?_
                                    exact J_sub (L' := [some (.ref 19), some (.int (nI q15)), some (.int (nI q1)), some (.int (nI k24)), some (.int (nI q8)), some (.ref a65), some (.ref a71), some (.int (nI y7)), some (.int (nI c8)), some (.int (nI (q86 + 1) + Int32.ofInt (-1)))]) ⟨rfl, ⟨rfl, ⟨rfl, ⟨rfl, ⟨rfl, ⟨rfl, ⟨rfl, ⟨rfl, ⟨rfl, ⟨(congrArg (fun z => some (Value.int z)) (nI_n1 q86)), trivial⟩⟩⟩⟩⟩⟩⟩⟩⟩⟩ (ihlp121_64 w85 rw80 (up f65_121 (rw80 (mv (q1 * 7 + c8))) ((f65_121 (rw80 (mv (q1 * 7 + c8)))) + 1)) (q86 + 1) ⟨h19_85, h20_85, h21_85, h22_85, hb_85, hbl_80, hb3_80⟩ hF85 hgrw80 hc85 hla71_85 (by first | assumption | omega) (by first | exact nw_t0 (c := k9 - 1 + 1) (by omega) hz126 (by assumption) | exact nw_t1 (c := k9 - 1 + 1) (by omega) hz126 (by assumption)) (by intro h; first | (rw [Nat.add_sub_cancel]; assumption) | omega) (by exact mu_dec (by assumption) (by omega) (by omega) (by omega)))
                          exact J_sub (L' := [some (.ref 19), some (.int (nI q15)), some (.int (nI q1)), some (.int (nI k24)), some (.int (nI q8)), some (.ref a65), some (.ref a71), some (.int (nI y7)), some (.int (nI c8)), some (.int (nI 0 + Int32.ofInt (-1)))]) ⟨rfl, ⟨rfl, ⟨rfl, ⟨rfl, ⟨rfl, ⟨rfl, ⟨rfl, ⟨rfl, ⟨rfl, ⟨(congrArg (fun z => some (Value.int z)) (by decide : (-1 : Int32) = nI 0 + Int32.ofInt (-1))), trivial⟩⟩⟩⟩⟩⟩⟩⟩⟩⟩ (lp121_64 _ w54 rw_81 f65_93 0 ⟨h19_60, h20_60, h21_60, h22_60, hb_60, hbl_60, hb3_60⟩ hF56 gr31 hl57 hl58 (by first | assumption | omega) (by first | exact nw_e0 (fun p hp => hv93_1 p (by omega)) (by assumption) | exact nw_e1 (fun p hp => hv93_1 p (by omega)) (by assumption)) (by intro h; first | (rw [Nat.add_sub_cancel]; assumption) | omega) (Nat.lt_succ_self _))
                        · refine J_istore (pc := 119) dX8_nth_119 (by decide) rfl ?_
                          show J X mX8_nth d (kc - 13 - 1 - 1) (ks - 2054 - 7 - 7) 121 [some (.ref 19), some (.int (nI q15)), some (.int (nI q1)), some (.int (nI k24)), some (.int (nI q8)), some (.ref a65), some (.ref a71), some (.int (nI y7)), some (.int (nI c8)), some (.int (nI q63))] [] w54 _
                          have lp121_87 : ∀ (fuel : Nat) (w88 : List jC) (rw_121 : Nat → Nat) (f65_121 : Nat → Nat) (k9 : Nat), (RM n mv rw_121 nx20 b20 bt20 kn20 en20 dn rf kk (nI (tW 0 0)) w88) → (FR b b20 w w88) → (∀ i, rw_121 i < 7) → (w88[a65]? = some (aF 7 f65_121)) → (w88[a71]? = some (aF 7 f71_81)) → (k9 ≤ fc n) → (∀ v, v < n → f65_121 v = nw n bt20 (fun j => mv (q1 * 7 + j)) f71_81 c8 v (KK (fc n) k9)) → (0 < k9 → bitL bt20 (k9 - 1) = true) → (mu (fc n) k9 < fuel) → J X mX8_nth d (kc - 13 - 1 - 1) (ks - 2054 - 7 - 7) 121 [some (.ref 19), some (.int (nI q15)), some (.int (nI q1)), some (.int (nI k24)), some (.int (nI q8)), some (.ref a65), some (.ref a71), some (.int (nI y7)), some (.int (nI c8)), some (.int (nI k9 + Int32.ofInt (-1)))] [] w88 (pJ (fun v w' => ∃ (mv' : Nat → Nat), ∃ (rw' : Nat → Nat), ∃ (nx' : Nat → Nat), ∃ (b' : Nat), ∃ (bt' : List Int32), ∃ (kn' : Int32), ∃ (en' : Int32), ∃ (dn' : Int32), ∃ (rf' : Int32), ∃ (th' : Int32), RM n mv' rw' nx' b' bt' kn' en' dn' rf' kk th' w' ∧ FR b b' w w' ∧ (∀ i, mv' i < 7) ∧ (∀ i, rw' i < 7) ∧ (∀ i, nx' i < 7) ∧ PM n mv' ∧ ((th' = nI 1 ∧ ¬ (isN (nI q1) 6 ∧ isN (nI q8) 6) ∧ mv' = mv ∧ KX n mv kn' bt' ∧ dn' = dn ∧ rf' = rf) ∨ (th' = nI 2 ∧ (isN (nI q1) 6 ∧ isN (nI q8) 6) ∧ ¬ (isN (nI q15) 64 ∧ 0 ≤ (nI k24)) ∧ mv' = mv ∧ KX n mv kn' bt' ∧ dn' = dn ∧ rf' = rf) ∨ (th' = nI 0 ∧ (∃ s1 a1 c1 rk y : Nat, (nI q15) = nI s1 ∧ (nI q1) = nI a1 ∧ (nI q8) = nI c1 ∧ (nI k24) = nI rk ∧ s1 < 64 ∧ a1 < 6 ∧ c1 < 6 ∧ rk < 2 ^ 31 ∧ rk < cd n (Gg n (gS (mW n mv) s1 6)) ∧ Mv n y ∧ GK n (Gg n (gS (mW n mv) s1 6)) (fun j => mv (a1 * 7 + j)) rk y ∧ ACT n mv c1 (d8 y) mv' ∧ v = nI (nuF (d8 y) 0 n n)) ∧ kn' = (-1) ∧ dn' = (dn + nI 1) ∧ rf' = rf) ∨ (th' = nI 0 ∧ (∃ s1 a1 c1 rk : Nat, (nI q15) = nI s1 ∧ (nI q1) = nI a1 ∧ (nI q8) = nI c1 ∧ (nI k24) = nI rk ∧ s1 < 64 ∧ a1 < 6 ∧ c1 < 6 ∧ rk < 2 ^ 31 ∧ ¬ rk < cd n (Gg n (gS (mW n mv) s1 6)) ∧ v = (-9)) ∧ mv' = mv ∧ KX n mv kn' bt' ∧ dn' = dn ∧ rf' = (rf + nI 1))))) := by
                            intro fuellp121_87
                            induction fuellp121_87 with
                            | zero => intros; omega
                            | succ fuellp121_87 ihlp121_87 =>
                              intro w88 rw_121 f65_121 k9 hR89 hF90 gr91 hl92 hl93 hv121_0 hv121_1 hv121_2 hf94
                              obtain ⟨h19_95, h20_95, h21_95, h22_95, hb_95, hbl_95, hb3_95⟩ := hR89
                              refine J_iload (pc := 121) dX8_nth_121 rfl ?_
                              refine J_if_ltM (pc := 123) (tgt := 172) dX8_nth_123 (by decide) (by omega) (fun ht96 => ?_) (fun hf97 => ?_)
                              · have hW : ∀ v, v < n → f65_121 v = nw n bt20 (fun j => mv (q1 * 7 + j)) f71_81 c8 v (fc n) := by
                                  intro v hv
                                  have h := hv121_1 v hv
                                  rw [show k9 = 0 by omega, KK_0] at h
                                  exact h
                                refine J_iconst (pc := 172) (v := nI 0) dX8_nth_172 (by decide) ?_
                                refine J_istore (pc := 173) dX8_nth_173 (by decide) rfl ?_
                                show J X mX8_nth d (kc - 13 - 1 - 1) (ks - 2054 - 7 - 7) 175 [some (.ref 19), some (.int (nI q15)), some (.int (nI q1)), some (.int (nI k24)), some (.int (nI q8)), some (.ref a65), some (.ref a71), some (.int (nI y7)), some (.int (nI c8)), some (.int (nI 0))] [] w88 _
                                have lp175_98 : ∀ (fuel : Nat) (x7 : Nat) (q9 : Nat), (x7 < sT f65_121 (n - q9) q9) → (x7 < 5056) → (y7 = sm f65_121 q9 + x7) → (n - q9 < fuel) → J X mX8_nth d (kc - 13 - 1 - 1) (ks - 2054 - 7 - 7) 175 [some (.ref 19), some (.int (nI q15)), some (.int (nI q1)), some (.int (nI k24)), some (.int (nI q8)), some (.ref a65), some (.ref a71), some (.int (nI x7)), some (.int (nI c8)), some (.int (nI q9))] [] w88 (pJ (fun v w' => ∃ (mv' : Nat → Nat), ∃ (rw' : Nat → Nat), ∃ (nx' : Nat → Nat), ∃ (b' : Nat), ∃ (bt' : List Int32), ∃ (kn' : Int32), ∃ (en' : Int32), ∃ (dn' : Int32), ∃ (rf' : Int32), ∃ (th' : Int32), RM n mv' rw' nx' b' bt' kn' en' dn' rf' kk th' w' ∧ FR b b' w w' ∧ (∀ i, mv' i < 7) ∧ (∀ i, rw' i < 7) ∧ (∀ i, nx' i < 7) ∧ PM n mv' ∧ ((th' = nI 1 ∧ ¬ (isN (nI q1) 6 ∧ isN (nI q8) 6) ∧ mv' = mv ∧ KX n mv kn' bt' ∧ dn' = dn ∧ rf' = rf) ∨ (th' = nI 2 ∧ (isN (nI q1) 6 ∧ isN (nI q8) 6) ∧ ¬ (isN (nI q15) 64 ∧ 0 ≤ (nI k24)) ∧ mv' = mv ∧ KX n mv kn' bt' ∧ dn' = dn ∧ rf' = rf) ∨ (th' = nI 0 ∧ (∃ s1 a1 c1 rk y : Nat, (nI q15) = nI s1 ∧ (nI q1) = nI a1 ∧ (nI q8) = nI c1 ∧ (nI k24) = nI rk ∧ s1 < 64 ∧ a1 < 6 ∧ c1 < 6 ∧ rk < 2 ^ 31 ∧ rk < cd n (Gg n (gS (mW n mv) s1 6)) ∧ Mv n y ∧ GK n (Gg n (gS (mW n mv) s1 6)) (fun j => mv (a1 * 7 + j)) rk y ∧ ACT n mv c1 (d8 y) mv' ∧ v = nI (nuF (d8 y) 0 n n)) ∧ kn' = (-1) ∧ dn' = (dn + nI 1) ∧ rf' = rf) ∨ (th' = nI 0 ∧ (∃ s1 a1 c1 rk : Nat, (nI q15) = nI s1 ∧ (nI q1) = nI a1 ∧ (nI q8) = nI c1 ∧ (nI k24) = nI rk ∧ s1 < 64 ∧ a1 < 6 ∧ c1 < 6 ∧ rk < 2 ^ 31 ∧ ¬ rk < cd n (Gg n (gS (mW n mv) s1 6)) ∧ v = (-9)) ∧ mv' = mv ∧ KX n mv kn' bt' ∧ dn' = dn ∧ rf' = (rf + nI 1))))) := by
                                  intro fuellp175_98
                                  induction fuellp175_98 with
                                  | zero => intros; omega
                                  | succ fuellp175_98 ihlp175_98 =>
                                    intro x7 q9 hv175_0 hv175_1 hv175_2 hf99
                                    have hpn := nth_p hv175_0
                                    have ha65 := hW q9 hpn
                                    have hnl := @nw_le n bt20 (fun j => mv (q1 * 7 + j)) f71_81 c8 q9 (fc n)
                                    refine J_iload (pc := 175) dX8_nth_175 rfl ?_
                                    refine J_aload (pc := 177) dX8_nth_177 rfl rfl ?_
                                    refine J_iload (pc := 179) dX8_nth_179 rfl ?_
                                    refine J_ialdF (pc := 181) dX8_nth_181 hl92 (by omega) (by decide) ?_
                                    refine J_icmp_ltN (pc := 182) (tgt := 201) dX8_nth_182 (by decide) (by omega) (by omega) (fun ht100 => ?_) (fun hf101 => ?_)
                                    · refine J_aload (pc := 201) dX8_nth_201 rfl rfl ?_
                                      refine J_iload (pc := 203) dX8_nth_203 rfl ?_
                                      refine J_iload (pc := 205) dX8_nth_205 rfl ?_
                                      refine J_iastF (pc := 207) dX8_nth_207 hl93 (by omega) (by decide) (fun w102 hln102 hc102 hne102 => ?_)
                                      have h19_102 := (hne102 19 (by omega)).trans h19_95
                                      have h20_102 := (hne102 20 (by omega)).trans h20_95
                                      have h21_102 := (hne102 21 (by omega)).trans h21_95
                                      have h22_102 := (hne102 22 (by omega)).trans h22_95
                                      have hb_102 := (hne102 _ (by omega)).trans hb_95
                                      have hla65_102 := (hne102 a65 (by omega)).trans hl92
                                      have hF102 := hF90.st hln102 hne102 (Or.inr (Or.inr (by omega)))
                                      refine J_iincN (pc := 208) (b := 1) dX8_nth_208 rfl (by decide) (by decide) rfl ?_
                                      show J X mX8_nth d (kc - 13 - 1 - 1) (ks - 2054 - 7 - 7) 211 [some (.ref 19), some (.int (nI q15)), some (.int (nI q1)), some (.int (nI k24)), some (.int (nI q8)), some (.ref a65), some (.ref a71), some (.int (nI x7)), some (.int (nI (c8 + 1))), some (.int (nI q9))] [] w102 _
                                      refine J_goto (pc := 211) (tgt := 81) dX8_nth_211 (by decide) ?_
                                      exact J_sub (L' := [some (.ref 19), some (.int (nI q15)), some (.int (nI q1)), some (.int (nI k24)), some (.int (nI q8)), some (.ref a65), some (.ref a71), some (.int (nI x7)), some (.int (nI (c8 + 1))), none]) ⟨rfl, ⟨rfl, ⟨rfl, ⟨rfl, ⟨rfl, ⟨rfl, ⟨rfl, ⟨rfl, ⟨rfl, trivial⟩⟩⟩⟩⟩⟩⟩⟩⟩ (ihlp81_27 w102 rw_121 f65_121 (up f71_81 c8 q9) x7 (c8 + 1) ⟨h19_102, h20_102, h21_102, h22_102, hb_102, hbl_95, hb3_95⟩ hF102 gr91 hla65_102 hc102 (by first | assumption | omega) (by exact up_b hv81_1 (by omega)) (by exact nth_next hpn hW (by assumption)) (by first | assumption | omega) (by exact LF_s (f := (fun j => mv (q1 * 7 + j))) hv81_4 hpn hW hv175_2 (by assumption)) (by omega))
                                    · refine J_iload (pc := 185) dX8_nth_185 rfl ?_
                                      refine J_aload (pc := 187) dX8_nth_187 rfl rfl ?_
                                      refine J_iload (pc := 189) dX8_nth_189 rfl ?_
                                      refine J_ialdF (pc := 191) dX8_nth_191 hl92 (by omega) (by decide) ?_
                                      refine J_isubN (pc := 192) dX8_nth_192 (by omega) ?_
                                      refine J_istore (pc := 193) dX8_nth_193 (by decide) rfl ?_
                                      show J X mX8_nth d (kc - 13 - 1 - 1) (ks - 2054 - 7 - 7) 195 [some (.ref 19), some (.int (nI q15)), some (.int (nI q1)), some (.int (nI k24)), some (.int (nI q8)), some (.ref a65), some (.ref a71), some (.int (nI (x7 - (f65_121 q9)))), some (.int (nI c8)), some (.int (nI q9))] [] w88 _
                                      refine J_iincN (pc := 195) (b := 1) dX8_nth_195 rfl (by decide) (by decide) rfl ?_
                                      show J X mX8_nth d (kc - 13 - 1 - 1) (ks - 2054 - 7 - 7) 198 [some (.ref 19), some (.int (nI q15)), some (.int (nI q1)), some (.int (nI k24)), some (.int (nI q8)), some (.ref a65), some (.ref a71), some (.int (nI (x7 - (f65_121 q9)))), some (.int (nI c8)), some (.int (nI (q9 + 1)))] [] w88 _
                                      refine J_goto (pc := 198) (tgt := 175) dX8_nth_198 (by decide) ?_
                                      exact J_sub (L' := [some (.ref 19), some (.int (nI q15)), some (.int (nI q1)), some (.int (nI k24)), some (.int (nI q8)), some (.ref a65), some (.ref a71), some (.int (nI (x7 - (f65_121 q9)))), some (.int (nI c8)), some (.int (nI (q9 + 1)))]) ⟨rfl, ⟨rfl, ⟨rfl, ⟨rfl, ⟨rfl, ⟨rfl, ⟨rfl, ⟨rfl, ⟨rfl, ⟨rfl, trivial⟩⟩⟩⟩⟩⟩⟩⟩⟩⟩ (ihlp175_98 (x7 - (f65_121 q9)) (q9 + 1) (by exact nth_s hv175_0 (by omega)) (by first | assumption | omega) (by rw [hv175_2]; show _ = sm _ q9 + _ + _; omega) (by omega))
                                exact J_sub (L' := [some (.ref 19), some (.int (nI q15)), some (.int (nI q1)), some (.int (nI k24)), some (.int (nI q8)), some (.ref a65), some (.ref a71), some (.int (nI y7)), some (.int (nI c8)), some (.int (nI 0))]) ⟨rfl, ⟨rfl, ⟨rfl, ⟨rfl, ⟨rfl, ⟨rfl, ⟨rfl, ⟨rfl, ⟨rfl, ⟨rfl, trivial⟩⟩⟩⟩⟩⟩⟩⟩⟩⟩ (lp175_98 _ y7 0 (by exact nth_st (f := (fun j => mv (q1 * 7 + j))) (lv := c8) (by omega) ((hy0 q1 (by omega)).1 c8 (by omega)) hW hv81_2) (by first | assumption | omega) (by show y7 = 0 + y7; rw [Nat.zero_add]) (Nat.lt_succ_self _))
                              · rw [nI_m1 hf97]
                                have hb126 := hv121_2 (by omega)
                                have hprev : ∀ v, v < n → f65_121 v = nw n bt20 (fun j => mv (q1 * 7 + j)) f71_81 c8 v (k9 - 1) := by
                                  intro v hv
                                  have h := hv121_1 v hv
                                  rw [KK_p (by omega)] at h
                                  exact h
                                refine J_aload_n (pc := 126) dX8_nth_126 rfl rfl rfl ?_
                                refine J_iload (pc := 127) dX8_nth_127 rfl ?_
                                refine J_iload_n (pc := 129) dX8_nth_129 rfl rfl ?_
                                refine J_iload (pc := 130) dX8_nth_130 rfl ?_
                                refine J_aload (pc := 132) dX8_nth_132 rfl rfl ?_
                                refine J_callV0 (pc := 134) (M := mX8_nth) (as := [.int (nI (k9 - 1)), .int (nI q1), .int (nI c8), .ref a71]) dX8_nth_134 fw_X8_isSuch fl_X8_140 fm_X8_isSuch fe_X8_isSuch h19_95 (by decide) rfl rfl rfl (c_X8_isSuch hs (d := d - 1) (Nat.le_trans (by decide) hdm) (w := w88) (n := n) (mv := mv) (rw := rw_121) (nx := nx20) (b := b20) (bt := bt20) (kn := kn20) (en := en20) (dn := dn) (rf := rf) (kk := kk) (th := nI (tW 0 0)) ⟨h19_95, h20_95, h21_95, h22_95, hb_95, hbl_95, hb3_95⟩ hn1 hn2 gm gr91 hgnx20 (k9 - 1) q1 c8 a71 f71_81 hl93 (by first | assumption | omega) (by first | assumption | omega) (by first | assumption | omega) (by first | assumption | omega) (by first | assumption | omega) (by first | assumption | omega) (by first | assumption | omega) (kc := 0) (ks := 0)) hdp (st := []) (Nat.le_of_ble_eq_true rfl) rfl (kr_I fun v103 w103 hv103 hw103 => ?_) kx_I
                                obtain ⟨rw103, hR103, hFc103, hgrw103, hp103_0⟩ := hw103
                                obtain ⟨h19_103, h20_103, h21_103, h22_103, hbb_103, hbl_103, hb3_103⟩ := hR103
                                have hla65_103 := hFc103.at hl92 (by omega) (by omega)
                                have hla71_103 := hFc103.at hl93 (by omega) (by omega)
                                have hF103 := hF90.tr hFc103
                                have hF7 : mv (q1 * 7 + c8) < n := (hy0 q1 (by omega)).1 c8 (by omega)
                                have hrv := hp103_0 _ hF7
                                rcases hv103 with ⟨rfl, hk103_0⟩ | ⟨rfl, hk103_0⟩
                                · refine J_if_eqN (pc := 137) (tgt := 159) dX8_nth_137 (by decide) (by decide) (fun _ => ?_) (fun h => absurd h (by decide))
                                  have hz126 : ∀ v, v < n → (f65_121) v = nw n bt20 (fun j => mv (q1 * 7 + j)) f71_81 c8 v (k9 - 1 + 1) := by
                                    first
                                    | (rw [hrv]; exact nw_s1 (f := (fun j => mv (q1 * 7 + j))) (lv := c8) hb126 (by assumption) hprev)
                                    | (intro v hv; rw [nw_s0 (by assumption)]; exact hprev v hv)
                                  refine J_aload_n (pc := 159) dX8_nth_159 rfl rfl rfl ?_
                                  refine J_iload (pc := 160) dX8_nth_160 rfl ?_
                                  refine J_iconst (pc := 162) (v := nI 1) dX8_nth_162 (by decide) ?_
                                  refine J_iaddN (pc := 163) dX8_nth_163 ?_
                                  refine J_callV0 (pc := 164) (M := mX8_nth) (as := [.int (nI ((k9 - 1) + 1))]) dX8_nth_164 fw_X8_from fl_X8_137 fm_X8_from fe_X8_from h19_103 (by decide) rfl rfl rfl (c_X8_from hs (d := d - 1) (Nat.le_trans (by decide) hdm) (w := w103) (n := n) (mv := mv) (rw := rw103) (nx := nx20) (b := b20) (bt := bt20) (kn := kn20) (en := en20) (dn := dn) (rf := rf) (kk := kk) (th := nI (tW 0 0)) ⟨h19_103, h20_103, h21_103, h22_103, hbb_103, hbl_103, hb3_103⟩ hn1 hn2 gm hgrw103 hgnx20 ((k9 - 1) + 1) (by first | assumption | omega) (kc := 0) (ks := 0)) hdp (st := []) (Nat.le_of_ble_eq_true rfl) rfl (kr_P fun v104 hv104 => ?_) kx_I
                                  rcases hv104 with ⟨rfl, hk104_0⟩ | ⟨q104, rfl, hk104_0, hk104_1, hk104_2, hk104_3⟩
                                  · refine J_istore (pc := 167) dX8_nth_167 (by decide) rfl ?_
                                    show J X mX8_nth d (kc - 13 - 1 - 1) (ks - 2054 - 7 - 7) 169 [some (.ref 19), some (.int (nI q15)), some (.int (nI q1)), some (.int (nI k24)), some (.int (nI q8)), some (.ref a65), some (.ref a71), some (.int (nI y7)), some (.int (nI c8)), some (.int (-1))] [] w103 _
                                    refine J_goto (pc := 169) (tgt := 121) dX8_nth_169 (by decide) ?_
                                    exact J_sub (L' := [some (.ref 19), some (.int (nI q15)), some (.int (nI q1)), some (.int (nI k24)), some (.int (nI q8)), some (.ref a65), some (.ref a71), some (.int (nI y7)), some (.int (nI c8)), some (.int (nI 0 + Int32.ofInt (-1)))]) ⟨rfl, ⟨rfl, ⟨rfl, ⟨rfl, ⟨rfl, ⟨rfl, ⟨rfl, ⟨rfl, ⟨rfl, ⟨(congrArg (fun z => some (Value.int z)) (by decide : (-1 : Int32) = nI 0 + Int32.ofInt (-1))), trivial⟩⟩⟩⟩⟩⟩⟩⟩⟩⟩ (ihlp121_87 w103 rw103 f65_121 0 ⟨h19_103, h20_103, h21_103, h22_103, hbb_103, hbl_103, hb3_103⟩ hF103 hgrw103 hla65_103 hla71_103 (by first | assumption | omega) (by first | exact nw_t0 (c := k9 - 1 + 1) (by omega) hz126 (by assumption) | exact nw_t1 (c := k9 - 1 + 1) (by omega) hz126 (by assumption)) (by intro h; first | (rw [Nat.add_sub_cancel]; assumption) | omega) (by exact mu_dec (by assumption) (by omega) (by omega) (by omega)))
                                  · refine J_istore (pc := 167) dX8_nth_167 (by decide) rfl ?_
                                    show J X mX8_nth d (kc - 13 - 1 - 1) (ks - 2054 - 7 - 7) 169 [some (.ref 19), some (.int (nI q15)), some (.int (nI q1)), some (.int (nI k24)), some (.int (nI q8)), some (.ref a65), some (.ref a71), some (.int (nI y7)), some (.int (nI c8)), some (.int (nI q104))] [] w103 _
                                    refine J_goto (pc := 169) (tgt := 121) dX8_nth_169 (by decide) ?_
                                    exact J_sub (L' := [some (.ref 19), some (.int (nI q15)), some (.int (nI q1)), some (.int (nI k24)), some (.int (nI q8)), some (.ref a65), some (.ref a71), some (.int (nI y7)), some (.int (nI c8)), some (.int (nI (q104 + 1) + Int32.ofInt (-1)))]) ⟨rfl, ⟨rfl, ⟨rfl, ⟨rfl, ⟨rfl, ⟨rfl, ⟨rfl, ⟨rfl, ⟨rfl, ⟨(congrArg (fun z => some (Value.int z)) (nI_n1 q104)), trivial⟩⟩⟩⟩⟩⟩⟩⟩⟩⟩ (ihlp121_87 w103 rw103 f65_121 (q104 + 1) ⟨h19_103, h20_103, h21_103, h22_103, hbb_103, hbl_103, hb3_103⟩ hF103 hgrw103 hla65_103 hla71_103 (by first | assumption | omega) (by first | exact nw_t0 (c := k9 - 1 + 1) (by omega) hz126 (by assumption) | exact nw_t1 (c := k9 - 1 + 1) (by omega) hz126 (by assumption)) (by intro h; first | (rw [Nat.add_sub_cancel]; assumption) | omega) (by exact mu_dec (by assumption) (by omega) (by omega) (by omega)))
                                · refine J_if_eqN (pc := 137) (tgt := 159) dX8_nth_137 (by decide) (by decide) (fun h => absurd h (by decide)) (fun _ => ?_)
                                  refine J_aload (pc := 140) dX8_nth_140 rfl rfl ?_
                                  refine J_aload_n (pc := 142) dX8_nth_142 rfl rfl rfl ?_
                                  refine J_get (pc := 143) (k := 2) dX8_nth_143 kC9 (by decide) ff_X8_17 h19_103 rfl ?_
                                  refine J_aload_n (pc := 146) dX8_nth_146 rfl rfl rfl ?_
                                  refine J_iload_n (pc := 147) dX8_nth_147 rfl rfl ?_
                                  refine J_iload (pc := 148) dX8_nth_148 rfl ?_
                                  refine J_callV0 (pc := 150) (M := mX8_nth) (as := [.int (nI q1), .int (nI c8)]) dX8_nth_150 fw_X8_at fl_X8_82 fm_X8_at fe_X8_at h19_103 (by decide) rfl rfl rfl (c_X8_at hs (d := d - 1) (Nat.le_trans (by decide) hdm) (w := w103) (n := n) (mv := mv) (rw := rw103) (nx := nx20) (b := b20) (bt := bt20) (kn := kn20) (en := en20) (dn := dn) (rf := rf) (kk := kk) (th := nI (tW 0 0)) ⟨h19_103, h20_103, h21_103, h22_103, hbb_103, hbl_103, hb3_103⟩ hn1 hn2 gm hgrw103 hgnx20 q1 c8 (by first | assumption | omega) (by first | assumption | omega) (kc := 0) (ks := 0)) hdp (st := [.ref 21, .ref a65]) (Nat.le_of_ble_eq_true rfl) rfl (kr_P fun v105 hv105 => ?_) kx_I
                                  subst hv105
                                  have hq106 := gm (q1 * 7 + c8)
                                  refine J_ialdF (pc := 153) dX8_nth_153 h21_103 (by omega) (by decide) ?_
                                  have hq107 := hgrw103 (mv (q1 * 7 + c8))
                                  refine J_dup2 (pc := 154) dX8_nth_154 rfl rfl ?_
                                  refine J_ialdF (pc := 155) dX8_nth_155 hla65_103 (by omega) (by decide) ?_
                                  refine J_iconst (pc := 156) (v := nI 1) dX8_nth_156 (by decide) ?_
                                  refine J_iaddN (pc := 157) dX8_nth_157 ?_
                                  refine J_iastF (pc := 158) dX8_nth_158 hla65_103 (by omega) (by decide) (fun w108 hln108 hc108 hne108 => ?_)
                                  have h19_108 := (hne108 19 (by omega)).trans h19_103
                                  have h20_108 := (hne108 20 (by omega)).trans h20_103
                                  have h21_108 := (hne108 21 (by omega)).trans h21_103
                                  have h22_108 := (hne108 22 (by omega)).trans h22_103
                                  have hb_108 := (hne108 _ (by omega)).trans hbb_103
                                  have hla71_108 := (hne108 a71 (by omega)).trans hla71_103
                                  have hF108 := hF103.st hln108 hne108 (Or.inr (Or.inr (by omega)))
                                  have hz126 : ∀ v, v < n → (up f65_121 (rw103 (mv (q1 * 7 + c8))) ((f65_121 (rw103 (mv (q1 * 7 + c8)))) + 1)) v = nw n bt20 (fun j => mv (q1 * 7 + j)) f71_81 c8 v (k9 - 1 + 1) := by
                                    first
                                    | (rw [hrv]; exact nw_s1 (f := (fun j => mv (q1 * 7 + j))) (lv := c8) hb126 (by assumption) hprev)
                                    | (intro v hv; rw [nw_s0 (by assumption)]; exact hprev v hv)
                                  refine J_aload_n (pc := 159) dX8_nth_159 rfl rfl rfl ?_
                                  refine J_iload (pc := 160) dX8_nth_160 rfl ?_
                                  refine J_iconst (pc := 162) (v := nI 1) dX8_nth_162 (by decide) ?_
                                  refine J_iaddN (pc := 163) dX8_nth_163 ?_
                                  refine J_callV0 (pc := 164) (M := mX8_nth) (as := [.int (nI ((k9 - 1) + 1))]) dX8_nth_164 fw_X8_from fl_X8_137 fm_X8_from fe_X8_from h19_108 (by decide) rfl rfl rfl (c_X8_from hs (d := d - 1) (Nat.le_trans (by decide) hdm) (w := w108) (n := n) (mv := mv) (rw := rw103) (nx := nx20) (b := b20) (bt := bt20) (kn := kn20) (en := en20) (dn := dn) (rf := rf) (kk := kk) (th := nI (tW 0 0)) ⟨h19_108, h20_108, h21_108, h22_108, hb_108, hbl_103, hb3_103⟩ hn1 hn2 gm hgrw103 hgnx20 ((k9 - 1) + 1) (by first | assumption | omega) (kc := 0) (ks := 0)) hdp (st := []) (Nat.le_of_ble_eq_true rfl) rfl (kr_P fun v109 hv109 => ?_) kx_I
                                  rcases hv109 with ⟨rfl, hk109_0⟩ | ⟨q109, rfl, hk109_0, hk109_1, hk109_2, hk109_3⟩
                                  · refine J_istore (pc := 167) dX8_nth_167 (by decide) rfl ?_
                                    show J X mX8_nth d (kc - 13 - 1 - 1) (ks - 2054 - 7 - 7) 169 [some (.ref 19), some (.int (nI q15)), some (.int (nI q1)), some (.int (nI k24)), some (.int (nI q8)), some (.ref a65), some (.ref a71), some (.int (nI y7)), some (.int (nI c8)), some (.int (-1))] [] w108 _
                                    refine J_goto (pc := 169) (tgt := 121) dX8_nth_169 (by decide) ?_
                                    exact J_sub (L' := [some (.ref 19), some (.int (nI q15)), some (.int (nI q1)), some (.int (nI k24)), some (.int (nI q8)), some (.ref a65), some (.ref a71), some (.int (nI y7)), some (.int (nI c8)), some (.int (nI 0 + Int32.ofInt (-1)))]) ⟨rfl, ⟨rfl, ⟨rfl, ⟨rfl, ⟨rfl, ⟨rfl, ⟨rfl, ⟨rfl, ⟨rfl, ⟨(congrArg (fun z => some (Value.int z)) (by decide : (-1 : Int32) = nI 0 + Int32.ofInt (-1))), trivial⟩⟩⟩⟩⟩⟩⟩⟩⟩⟩ (ihlp121_87 w108 rw103 (up f65_121 (rw103 (mv (q1 * 7 + c8))) ((f65_121 (rw103 (mv (q1 * 7 + c8)))) + 1)) 0 ⟨h19_108, h20_108, h21_108, h22_108, hb_108, hbl_103, hb3_103⟩ hF108 hgrw103 hc108 hla71_108 (by first | assumption | omega) (by first | exact nw_t0 (c := k9 - 1 + 1) (by omega) hz126 (by assumption) | exact nw_t1 (c := k9 - 1 + 1) (by omega) hz126 (by assumption)) (by intro h; first | (rw [Nat.add_sub_cancel]; assumption) | omega) (by exact mu_dec (by assumption) (by omega) (by omega) (by omega)))
                                  · refine J_istore (pc := 167) dX8_nth_167 (by decide) rfl ?_
                                    show J X mX8_nth d (kc - 13 - 1 - 1) (ks - 2054 - 7 - 7) 169 [some (.ref 19), some (.int (nI q15)), some (.int (nI q1)), some (.int (nI k24)), some (.int (nI q8)), some (.ref a65), some (.ref a71), some (.int (nI y7)), some (.int (nI c8)), some (.int (nI q109))] [] w108 _
                                    refine J_goto (pc := 169) (tgt := 121) dX8_nth_169 (by decide) ?_
                                    exact J_sub (L' := [some (.ref 19), some (.int (nI q15)), some (.int (nI q1)), some (.int (nI k24)), some (.int (nI q8)), some (.ref a65), some (.ref a71), some (.int (nI y7)), some (.int (nI c8)), some (.int (nI (q109 + 1) + Int32.ofInt (-1)))]) ⟨rfl, ⟨rfl, ⟨rfl, ⟨rfl, ⟨rfl, ⟨rfl, ⟨rfl, ⟨rfl, ⟨rfl, ⟨(congrArg (fun z => some (Value.int z)) (nI_n1 q109)), trivial⟩⟩⟩⟩⟩⟩⟩⟩⟩⟩ (ihlp121_87 w108 rw103 (up f65_121 (rw103 (mv (q1 * 7 + c8))) ((f65_121 (rw103 (mv (q1 * 7 + c8)))) + 1)) (q109 + 1) ⟨h19_108, h20_108, h21_108, h22_108, hb_108, hbl_103, hb3_103⟩ hF108 hgrw103 hc108 hla71_108 (by first | assumption | omega) (by first | exact nw_t0 (c := k9 - 1 + 1) (by omega) hz126 (by assumption) | exact nw_t1 (c := k9 - 1 + 1) (by omega) hz126 (by assumption)) (by intro h; first | (rw [Nat.add_sub_cancel]; assumption) | omega) (by exact mu_dec (by assumption) (by omega) (by omega) (by omega)))
                          exact J_sub (L' := [some (.ref 19), some (.int (nI q15)), some (.int (nI q1)), some (.int (nI k24)), some (.int (nI q8)), some (.ref a65), some (.ref a71), some (.int (nI y7)), some (.int (nI c8)), some (.int (nI (q63 + 1) + Int32.ofInt (-1)))]) ⟨rfl, ⟨rfl, ⟨rfl, ⟨rfl, ⟨rfl, ⟨rfl, ⟨rfl, ⟨rfl, ⟨rfl, ⟨(congrArg (fun z => some (Value.int z)) (nI_n1 q63)), trivial⟩⟩⟩⟩⟩⟩⟩⟩⟩⟩ (lp121_87 _ w54 rw_81 f65_93 (q63 + 1) ⟨h19_60, h20_60, h21_60, h22_60, hb_60, hbl_60, hb3_60⟩ hF56 gr31 hl57 hl58 (by first | assumption | omega) (by first | exact nw_e0 (fun p hp => hv93_1 p (by omega)) (by assumption) | exact nw_e1 (fun p hp => hv93_1 p (by omega)) (by assumption)) (by intro h; first | (rw [Nat.add_sub_cancel]; assumption) | omega) (Nat.lt_succ_self _))
                      · refine J_aload (pc := 102) dX8_nth_102 rfl rfl ?_
                        refine J_iload (pc := 104) dX8_nth_104 rfl ?_
                        refine J_iconst (pc := 106) (v := nI 0) dX8_nth_106 (by decide) ?_
                        refine J_iastF (pc := 107) dX8_nth_107 hl57 (by omega) (by decide) (fun w110 hln110 hc110 hne110 => ?_)
                        have h19_110 := (hne110 19 (by omega)).trans h19_60
                        have h20_110 := (hne110 20 (by omega)).trans h20_60
                        have h21_110 := (hne110 21 (by omega)).trans h21_60
                        have h22_110 := (hne110 22 (by omega)).trans h22_60
                        have hb_110 := (hne110 _ (by omega)).trans hb_60
                        have hla71_110 := (hne110 a71 (by omega)).trans hl58
                        have hF110 := hF56.st hln110 hne110 (Or.inr (Or.inr (by omega)))
                        refine J_iincN (pc := 108) (b := 1) dX8_nth_108 rfl (by decide) (by decide) rfl ?_
                        show J X mX8_nth d (kc - 13 - 1 - 1) (ks - 2054 - 7 - 7) 111 [some (.ref 19), some (.int (nI q15)), some (.int (nI q1)), some (.int (nI k24)), some (.int (nI q8)), some (.ref a65), some (.ref a71), some (.int (nI y7)), some (.int (nI c8)), some (.int (nI (p9 + 1)))] [] w110 _
                        refine J_goto (pc := 111) (tgt := 93) dX8_nth_111 (by decide) ?_
                        exact J_sub (L' := [some (.ref 19), some (.int (nI q15)), some (.int (nI q1)), some (.int (nI k24)), some (.int (nI q8)), some (.ref a65), some (.ref a71), some (.int (nI y7)), some (.int (nI c8)), some (.int (nI (p9 + 1)))]) ⟨rfl, ⟨rfl, ⟨rfl, ⟨rfl, ⟨rfl, ⟨rfl, ⟨rfl, ⟨rfl, ⟨rfl, ⟨rfl, trivial⟩⟩⟩⟩⟩⟩⟩⟩⟩⟩ (ihlp93_53 w110 (up f65_93 p9 0) (p9 + 1) ⟨h19_110, h20_110, h21_110, h22_110, hb_110, hbl_60, hb3_60⟩ hF110 hc110 hla71_110 (by first | assumption | omega) (by intro p hp; by_cases e : p = p9; (subst e; exact up_s _ _ _); (rw [up_n e]; exact hv93_1 p (by omega))) (by omega))
                  exact J_sub (L' := [some (.ref 19), some (.int (nI q15)), some (.int (nI q1)), some (.int (nI k24)), some (.int (nI q8)), some (.ref a65), some (.ref a71), some (.int (nI y7)), some (.int (nI c8)), some (.int (nI 0))]) ⟨rfl, ⟨rfl, ⟨rfl, ⟨rfl, ⟨rfl, ⟨rfl, ⟨rfl, ⟨rfl, ⟨rfl, ⟨rfl, trivial⟩⟩⟩⟩⟩⟩⟩⟩⟩⟩ (lp93_53 _ w28 f65_81 0 ⟨h19_35, h20_35, h21_35, h22_35, hb_35, hbl_35, hb3_35⟩ hF30 hl32 hl33 (by first | assumption | omega) (by intro p hp; omega) (Nat.lt_succ_self _))
            exact J_sub (L' := [some (.ref 19), some (.int (nI q15)), some (.int (nI q1)), some (.int (nI k24)), some (.int (nI q8)), some (.ref a65), some (.ref a71), some (.int (nI k24)), some (.int (nI 0)), none]) ⟨rfl, ⟨rfl, ⟨rfl, ⟨rfl, ⟨rfl, ⟨rfl, ⟨rfl, ⟨rfl, ⟨rfl, trivial⟩⟩⟩⟩⟩⟩⟩⟩⟩ (lp81_27 _ w26 rw20 (fun _ => 0) (fun _ => 0) k24 0 ⟨h19_26, h20_26, h21_26, h22_26, hb_26, hbl_20, hb3_20⟩ hF26 hgrw20 hla65_26 hc26 (by first | assumption | omega) (by intro i; decide) (by exact nth_in hBT.1 (by omega) (by assumption)) (by first | assumption | omega) (by exact LF_0) (Nat.lt_succ_self _))
          · obtain ⟨rk9, hrk9, rfl⟩ := nI_nn (x := e) (by assumption)
            have hge9 : cnt (bitL bt20) 5056 ≤ rk9 := (nI_leI (by omega) hrk9).mp (Int32.not_lt.mp (by assumption))
            refine J_aload_n (pc := 58) dX8_nth_58 rfl rfl rfl ?_
            refine J_callV0 (pc := 59) (M := mX8_nth) (as := []) dX8_nth_59 fw_X8_no fl_X8_131 fm_X8_no fe_X8_no h19_20 (by decide) rfl rfl rfl (c_X8_no hs (d := d - 1) (Nat.le_trans (by decide) hdm) (w := w20) (n := n) (mv := mv) (rw := rw20) (nx := nx20) (b := b20) (bt := bt20) (kn := kn20) (en := en20) (dn := dn) (rf := rf) (kk := kk) (th := nI (tW 0 0)) ⟨h19_20, h20_20, h21_20, h22_20, hbb_20, hbl_20, hb3_20⟩ hn1 hn2 gm hgrw20 hgnx20  (kc := 0) (ks := 0)) hdp (st := []) (Nat.le_of_ble_eq_true rfl) rfl (kr_I fun v111 w111 hv111 hw111 => ?_) kx_I
            obtain ⟨hR111, hFc111⟩ := hw111
            obtain ⟨h19_111, h20_111, h21_111, h22_111, hbb_111, hbl_111, hb3_111⟩ := hR111
            have hF111 := hF20.tr hFc111
            subst hv111
            exact J_iret (pc := 62) dX8_nth_62 rfl (⟨mv, rw20, nx20, b20, bt20, kn20, en20, dn, (rf + nI 1), nI (tW 0 0), ⟨h19_111, h20_111, h21_111, h22_111, hbb_111, hbl_111, hb3_111⟩, hF111, gm, hgrw20, hgnx20, (by first | assumption | exact PM_st hn2 (by assumption) (by assumption) (by assumption)), (by first | exact Or.inl ⟨rfl, fun g => (by first | exact ne_isN (by assumption) g | exact ne_isN (by assumption) g.1 | exact ne_isN (by assumption) g.2 | exact ne_isN (by assumption) g.2.1 | exact ne_isN (by assumption) g.2.2 | exact ne_isN (by assumption) g.2.2.1 | exact ne_isN (by assumption) g.2.2.2), rfl, by assumption, rfl, rfl⟩ | exact Or.inr (Or.inl ⟨rfl, ⟨isN_of (by first | assumption | omega), isN_of (by first | assumption | omega)⟩, (by first | exact fun g => ne_isN (by assumption) g.1 | exact fun g => absurd (show e < 0 by assumption) (Int32.not_lt.mpr g.2) | exact fun g => absurd g.2 (by assumption)), rfl, by assumption, rfl, rfl⟩) | exact Or.inr (Or.inr (Or.inl ⟨rfl, ⟨_, _, _, _, _, rfl, rfl, rfl, rfl, by omega, by omega, by omega, by omega, (by rw [← BX_cd hn2 hBX]; assumption), hyM, hyG, ACT_of hn2 hgt (fun p hp => hyd p hp), congrArg nI (nu_congr (fun p hp => hyd p hp))⟩, rfl, rfl, rfl⟩)) | exact Or.inr (Or.inr (Or.inr ⟨rfl, ⟨_, _, _, _, rfl, rfl, rfl, rfl, by omega, by omega, by omega, by omega, (by rw [← BX_cd hn2 hBX]; omega), rfl⟩, rfl, Or.inr ⟨_, by omega, by assumption, hBX⟩, rfl, rfl⟩)))⟩)
        · refine J_iconst (pc := 32) (v := nI 1) dX8_nth_32 (by decide) ?_
          refine J_goto (pc := 33) (tgt := 37) dX8_nth_33 (by decide) ?_
          refine J_callV0 (pc := 37) (M := mX8_nth) (as := [.int (nI 0), .int (nI 1)]) dX8_nth_37 fw_X8_isThrown fl_X8_35 fm_X8_isThrown fe_X8_isThrown h19 (by decide) rfl rfl rfl (c_X8_isThrown hs (d := d - 1) (Nat.le_trans (by decide) hdm) (w := w) (n := n) (mv := mv) (rw := rw) (nx := nx) (b := b) (bt := bt) (kn := kn) (en := en) (dn := dn) (rf := rf) (kk := kk) (th := th) ⟨h19, h20, h21, h22, hbb, hbl, hb3⟩ hn1 hn2 gm gr gx 0 1 (by first | assumption | omega) (by first | assumption | omega) (kc := 0) (ks := 0)) hdp (st := []) (Nat.le_of_ble_eq_true rfl) rfl (kr_I fun v112 w112 hv112 hw112 => ?_) kx_I
          obtain ⟨hR112, hFc112⟩ := hw112
          obtain ⟨h19_112, h20_112, h21_112, h22_112, hbb_112, hbl_112, hb3_112⟩ := hR112
          have hF112 := hF.tr hFc112
          subst hv112
          show J X mX8_nth d kc ks 40 [some (.ref 19), some (.int (nI q15)), some (.int (nI q1)), some (.int e), some (.int (nI q8)), none, none, none, none, none] [.int (nI 1)] w112 _
          refine J_if_eqN (pc := 40) (tgt := 45) dX8_nth_40 (by decide) (by decide) (fun h => absurd h (by decide)) (fun _ => ?_)
          refine J_iconst (pc := 43) (v := nI 0) dX8_nth_43 (by decide) ?_
          exact J_iret (pc := 44) dX8_nth_44 rfl (⟨mv, rw, nx, b, bt, kn, en, dn, rf, nI (tW 0 1), ⟨h19_112, h20_112, h21_112, h22_112, hbb_112, hbl_112, hb3_112⟩, hF112, gm, gr, gx, (by first | assumption | exact PM_st hn2 (by assumption) (by assumption) (by assumption)), (by first | exact Or.inl ⟨rfl, fun g => (by first | exact ne_isN (by assumption) g | exact ne_isN (by assumption) g.1 | exact ne_isN (by assumption) g.2 | exact ne_isN (by assumption) g.2.1 | exact ne_isN (by assumption) g.2.2 | exact ne_isN (by assumption) g.2.2.1 | exact ne_isN (by assumption) g.2.2.2), rfl, by assumption, rfl, rfl⟩ | exact Or.inr (Or.inl ⟨rfl, ⟨isN_of (by first | assumption | omega), isN_of (by first | assumption | omega)⟩, (by first | exact fun g => ne_isN (by assumption) g.1 | exact fun g => absurd (show e < 0 by assumption) (Int32.not_lt.mpr g.2) | exact fun g => absurd g.2 (by assumption)), rfl, by assumption, rfl, rfl⟩) | exact Or.inr (Or.inr (Or.inl ⟨rfl, ⟨_, _, _, _, _, rfl, rfl, rfl, rfl, by omega, by omega, by omega, by omega, (by rw [← BX_cd hn2 hBX]; assumption), hyM, hyG, ACT_of hn2 hgt (fun p hp => hyd p hp), congrArg nI (nu_congr (fun p hp => hyd p hp))⟩, rfl, rfl, rfl⟩)) | exact Or.inr (Or.inr (Or.inr ⟨rfl, ⟨_, _, _, _, rfl, rfl, rfl, rfl, by omega, by omega, by omega, by omega, (by rw [← BX_cd hn2 hBX]; omega), rfl⟩, rfl, Or.inr ⟨_, by omega, by assumption, hBX⟩, rfl, rfl⟩)))⟩)
