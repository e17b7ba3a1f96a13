/-! exact contracts of the class: espec2 -/
set_option maxRecDepth 100000 in
set_option maxHeartbeats 4000000 in
theorem c_X0_place_atx {X : jX} (hs : X.1.stackTraces = false) {d : Nat} (hd : 0 ≤ d) {w : List jC} (a : Nat) (g : Nat) {kc ks : Nat} : jMet X mX0_place d kc ks [.int (nI a), .int (nI g)] w (pI (fun v => v = nI (a * 8 + g)) (fun w' => w' = w)) := by
  refine jMet_of hs (by decide +kernel) (Nat.le_of_ble_eq_true rfl) (L := [some (.int (nI a)), some (.int (nI g))]) rfl ?_
  refine J_iload_n (pc := 0) dX0_place_0 rfl rfl ?_
  refine J_bipush (pc := 1) (v := nI 8) dX0_place_1 (by decide) ?_
  refine J_imulN (pc := 3) dX0_place_3 ?_
  refine J_iload_n (pc := 4) dX0_place_4 rfl rfl ?_
  refine J_iaddN (pc := 5) dX0_place_5 ?_
  exact J_iret (pc := 6) dX0_place_6 rfl ⟨(congrArg nI (by omega)), rfl⟩
set_option maxRecDepth 100000 in
set_option maxHeartbeats 4000000 in
theorem c_X0_addStep_atx {X : jX} (hs : X.1.stackTraces = false) {d : Nat} (hd : 0 ≤ d) {st sv rc sz kw : Nat → Nat} {ns tk ro nn : Nat} {w : List jC} (hR : CM st sv rc sz kw ns tk ro nn w) (p : Nat) (x : Nat) (y : Nat) (hy0 : p < 64) (hy1 : ns < 21) {kc ks : Nat} : jMet X mX0_addStep d kc ks [.ref 2, .int (nI p), .int (nI x), .int (nI y)] w (pV (fun w' => ∃ (st' : Nat → Nat), ∃ (sv' : Nat → Nat), ∃ (kw' : Nat → Nat), ∃ (ns' : Nat), CM st' sv' rc sz kw' ns' tk ro nn w' ∧ FC w w' ∧ (st' = up st p x) ∧ (sv' = up sv p y) ∧ (kw' = up kw ns x) ∧ (ns' = ns + 1))) := by
  refine jMet_of hs (by decide +kernel) (Nat.le_of_ble_eq_true rfl) (L := [some (.ref 2), some (.int (nI p)), some (.int (nI x)), some (.int (nI y))]) rfl ?_
  obtain ⟨h2, h3, h4, h5, h6, h7⟩ := hR
  have hF : FC w w := FC.rf
  refine J_aload_n (pc := 0) dX0_addStep_0 rfl rfl rfl ?_
  refine J_get (pc := 1) (k := 0) dX0_addStep_1 kC2 (by decide) ff_X0_9 h2 rfl ?_
  refine J_iload_n (pc := 4) dX0_addStep_4 rfl rfl ?_
  refine J_iload_n (pc := 5) dX0_addStep_5 rfl rfl ?_
  refine J_iastF (pc := 6) dX0_addStep_6 h3 (by omega) (by decide) (fun w1 hln1 hc1 hne1 => ?_)
  have h2_1 := (hne1 2 (by decide)).trans h2
  have h4_1 := (hne1 4 (by decide)).trans h4
  have h5_1 := (hne1 5 (by decide)).trans h5
  have h6_1 := (hne1 6 (by decide)).trans h6
  have h7_1 := (hne1 7 (by decide)).trans h7
  have hF1 := hF.st hln1 hne1 (by decide)
  refine J_aload_n (pc := 7) dX0_addStep_7 rfl rfl rfl ?_
  refine J_get (pc := 8) (k := 1) dX0_addStep_8 kC2 (by decide) ff_X0_15 h2_1 rfl ?_
  refine J_iload_n (pc := 11) dX0_addStep_11 rfl rfl ?_
  refine J_iload_n (pc := 12) dX0_addStep_12 rfl rfl ?_
  refine J_iastF (pc := 13) dX0_addStep_13 h4_1 (by omega) (by decide) (fun w2 hln2 hc2 hne2 => ?_)
  have h2_2 := (hne2 2 (by decide)).trans h2_1
  have h3_2 := (hne2 3 (by decide)).trans hc1
  have h5_2 := (hne2 5 (by decide)).trans h5_1
  have h6_2 := (hne2 6 (by decide)).trans h6_1
  have h7_2 := (hne2 7 (by decide)).trans h7_1
  have hF2 := hF1.st hln2 hne2 (by decide)
  refine J_aload_n (pc := 14) dX0_addStep_14 rfl rfl rfl ?_
  refine J_get (pc := 15) (k := 5) dX0_addStep_15 kC2 (by decide) ff_X0_27 h2_2 rfl ?_
  refine J_bipush (pc := 18) (v := nI 21) dX0_addStep_18 (by decide) ?_
  refine J_icmp_geN (pc := 20) (tgt := 43) dX0_addStep_20 (by decide) (by omega) (by omega) (fun ht3 => ?_) (fun hf4 => ?_)
  · exact absurd ht3 (by omega)
  · refine J_aload_n (pc := 23) dX0_addStep_23 rfl rfl rfl ?_
    refine J_get (pc := 24) (k := 4) dX0_addStep_24 kC2 (by decide) ff_X0_24 h2_2 rfl ?_
    refine J_aload_n (pc := 27) dX0_addStep_27 rfl rfl rfl ?_
    refine J_get (pc := 28) (k := 5) dX0_addStep_28 kC2 (by decide) ff_X0_27 h2_2 rfl ?_
    refine J_iload_n (pc := 31) dX0_addStep_31 rfl rfl ?_
    refine J_iastF (pc := 32) dX0_addStep_32 h7_2 (by omega) (by decide) (fun w5 hln5 hc5 hne5 => ?_)
    have h2_5 := (hne5 2 (by decide)).trans h2_2
    have h3_5 := (hne5 3 (by decide)).trans h3_2
    have h4_5 := (hne5 4 (by decide)).trans hc2
    have h5_5 := (hne5 5 (by decide)).trans h5_2
    have h6_5 := (hne5 6 (by decide)).trans h6_2
    have hF5 := hF2.st hln5 hne5 (by decide)
    refine J_aload_n (pc := 33) dX0_addStep_33 rfl rfl rfl ?_
    refine J_dup (pc := 34) dX0_addStep_34 rfl ?_
    refine J_get (pc := 35) (k := 5) dX0_addStep_35 kC2 (by decide) ff_X0_27 h2_5 rfl ?_
    refine J_iconst (pc := 38) (v := nI 1) dX0_addStep_38 (by decide) ?_
    refine J_iaddN (pc := 39) dX0_addStep_39 ?_
    refine J_putW (pc := 40) (k := 5) dX0_addStep_40 kC2 (by decide) ff_X0_27 (Or.inl rfl) ⟨rfl, rfl⟩ h2_5 (by show 5 < 9; decide) (fun w6 hln6 hw6 hne6 => ?_)
    have h2_6 : w6[2]? = some (.inr (2, [.ref 3, .ref 4, .ref 5, .ref 6, .ref 7, .int (nI (ns + 1)), .int (nI tk), .int (nI ro), .int (nI nn)])) := hw6
    have h3_6 := (hne6 3 (by decide)).trans h3_5
    have h4_6 := (hne6 4 (by decide)).trans h4_5
    have h5_6 := (hne6 5 (by decide)).trans h5_5
    have h6_6 := (hne6 6 (by decide)).trans h6_5
    have h7_6 := (hne6 7 (by decide)).trans hc5
    have hF6 := hF5.st hln6 hne6 (by decide)
    exact J_vret (pc := 43) dX0_addStep_43 rfl (⟨up st p x, up sv p y, up kw ns x, ns + 1, ⟨h2_6, h3_6, h4_6, h5_6, h6_6, h7_6⟩, hF6, (by rfl), (by rfl), (by rfl), (by rfl)⟩)
set_option maxRecDepth 100000 in
set_option maxHeartbeats 4000000 in
theorem c_X0_admit_atx {X : jX} (hs : X.1.stackTraces = false) {d : Nat} (hd : 1 ≤ d) {st sv rc sz kw : Nat → Nat} {ns tk ro nn : Nat} {w : List jC} (hR : CM st sv rc sz kw ns tk ro nn w) (x : Nat) (hy0 : Mv nn x) (hy1 : nn ≤ 7) (hy2 : CI nn ro st sv rc kw ns) {kc ks : Nat} : jMet X mX0_admit d kc ks [.ref 2, .int (nI x)] w (pI (fun v => (v = nI 0 ∧ CP nn (RC rc) (ST st) nn x) ∨ (v = nI 1 ∧ ¬ CP nn (RC rc) (ST st) nn x)) (fun w' => ∃ (st' : Nat → Nat), ∃ (sv' : Nat → Nat), ∃ (rc' : Nat → Nat), ∃ (kw' : Nat → Nat), ∃ (ns' : Nat), CM st' sv' rc' sz kw' ns' tk ro nn w' ∧ FC w w' ∧ (AD nn ro st sv rc kw ns x st' sv' rc' kw' ns') ∧ (CP nn (RC rc) (ST st) nn x → st' = st ∧ sv' = sv ∧ rc' = rc ∧ kw' = kw ∧ ns' = ns))) := by
  refine jMet_of hs (by decide +kernel) (Nat.le_of_ble_eq_true rfl) (L := [some (.ref 2), some (.int (nI x)), none, none, none, none, none]) rfl ?_
  have hdm : 0 ≤ d - 1 := by omega
  have hdp : d - 1 + 1 ≤ d := by omega
  obtain ⟨h2, h3, h4, h5, h6, h7⟩ := hR
  have hF : FC w w := FC.rf
  have hro := hy2.1
  refine J_iload_n (pc := 0) dX0_admit_0 rfl rfl ?_
  refine J_istore_n (pc := 1) dX0_admit_1 rfl (by decide) rfl ?_
  show J X mX0_admit d kc ks 2 [some (.ref 2), some (.int (nI x)), some (.int (nI x)), none, none, none, none] [] w _
  refine J_iconst (pc := 2) (v := nI 0) dX0_admit_2 (by decide) ?_
  refine J_istore_n (pc := 3) dX0_admit_3 rfl (by decide) rfl ?_
  show J X mX0_admit d kc ks 4 [some (.ref 2), some (.int (nI x)), some (.int (nI x)), some (.int (nI 0)), none, none, none] [] w _
  have lp4_1 : ∀ (fuel : Nat) (y2 : Nat) (c3 : Nat), (SI nn ro st rc x c3 y2) → (c3 ≤ nn) → (nn - c3 < fuel) → J X mX0_admit d kc ks 4 [some (.ref 2), some (.int (nI x)), some (.int (nI y2)), some (.int (nI c3)), none, none, none] [] w (pI (fun v => (v = nI 0 ∧ CP nn (RC rc) (ST st) nn x) ∨ (v = nI 1 ∧ ¬ CP nn (RC rc) (ST st) nn x)) (fun w' => ∃ (st' : Nat → Nat), ∃ (sv' : Nat → Nat), ∃ (rc' : Nat → Nat), ∃ (kw' : Nat → Nat), ∃ (ns' : Nat), CM st' sv' rc' sz kw' ns' tk ro nn w' ∧ FC w w' ∧ (AD nn ro st sv rc kw ns x st' sv' rc' kw' ns') ∧ (CP nn (RC rc) (ST st) nn x → st' = st ∧ sv' = sv ∧ rc' = rc ∧ kw' = kw ∧ ns' = ns))) := by
    intro fuellp4_1
    induction fuellp4_1 with
    | zero => intros; omega
    | succ fuellp4_1 ihlp4_1 =>
      intro y2 c3 hv4_0 hv4_1 hf2
      refine J_iload_n (pc := 4) dX0_admit_4 rfl rfl ?_
      refine J_aload_n (pc := 5) dX0_admit_5 rfl rfl rfl ?_
      refine J_get (pc := 6) (k := 8) dX0_admit_6 kC2 (by decide) ff_X0_38 h2 rfl ?_
      refine J_icmp_geN (pc := 9) (tgt := 103) dX0_admit_9 (by decide) (by omega) (by omega) (fun ht3 => ?_) (fun hf4 => ?_)
      · refine J_iconst (pc := 103) (v := nI 0) dX0_admit_103 (by decide) ?_
        exact J_zret (pc := 104) dX0_admit_104 rfl (nar_b (by first | decide | omega)) ⟨Or.inl ⟨rfl, (by exact SI_n hy1 hy2 (by omega) hv4_0)⟩, ⟨st, sv, rc, kw, ns, ⟨h2, h3, h4, h5, h6, h7⟩, hF, (by first | exact AD_0 hy2 (SI_n hy1 hy2 (by omega) hv4_0) | (obtain ⟨rfl, rfl, rfl, rfl⟩ := hadd; exact NEW hy1 hy2 (by omega) hv4_0 hrc)), (by first | exact fun _ => ⟨rfl, rfl, rfl, rfl, rfl⟩ | exact fun h => absurd h (SI_not hy1 hy2 (by omega) hv4_0 hrc))⟩⟩
      · have hr1 := hro.2.1.1 c3 (by omega)
        have hr2 := hv4_0.1.2.1.1 _ hr1
        refine J_aload_n (pc := 12) dX0_admit_12 rfl rfl rfl ?_
        refine J_get (pc := 13) (k := 7) dX0_admit_13 kC2 (by decide) ff_X0_35 h2 rfl ?_
        refine J_iload_n (pc := 16) dX0_admit_16 rfl rfl ?_
        refine J_callS0 (pc := 17) (M := mX0_admit) (as := [.int (nI ro), .int (nI c3)]) dX0_admit_17 fw_X2_goal fl_X0_41 fs_X2_goal rfl (c_X2_goal_atx hs (d := d - 1) (Nat.le_trans (by decide) hdm) (w := w) ro c3 (by exact hro.1) (by omega) (kc := 0) (ks := 0)) hdp (st := []) (Nat.le_of_ble_eq_true rfl) rfl (kr_P fun v5 hv5 => ?_) kx_I
        subst hv5
        have hq6 := d8_lt ro c3
        refine J_istore (pc := 20) dX0_admit_20 (by decide) rfl ?_
        show J X mX0_admit d kc ks 22 [some (.ref 2), some (.int (nI x)), some (.int (nI y2)), some (.int (nI c3)), some (.int (nI (d8 ro c3))), none, none] [] w _
        refine J_iload_n (pc := 22) dX0_admit_22 rfl rfl ?_
        refine J_iload (pc := 23) dX0_admit_23 rfl ?_
        refine J_callS0 (pc := 25) (M := mX0_admit) (as := [.int (nI y2), .int (nI (d8 ro c3))]) dX0_admit_25 fw_X2_goal fl_X0_41 fs_X2_goal rfl (c_X2_goal_atx hs (d := d - 1) (Nat.le_trans (by decide) hdm) (w := w) y2 (d8 ro c3) (by exact hv4_0.1.1) (by omega) (kc := 0) (ks := 0)) hdp (st := []) (Nat.le_of_ble_eq_true rfl) rfl (kr_P fun v7 hv7 => ?_) kx_I
        subst hv7
        have hq8 := d8_lt y2 (d8 ro c3)
        refine J_istore (pc := 28) dX0_admit_28 (by decide) rfl ?_
        show J X mX0_admit d kc ks 30 [some (.ref 2), some (.int (nI x)), some (.int (nI y2)), some (.int (nI c3)), some (.int (nI (d8 ro c3))), some (.int (nI (d8 y2 (d8 ro c3)))), none] [] w _
        refine J_iload_n (pc := 30) dX0_admit_30 rfl rfl ?_
        refine J_iload (pc := 31) dX0_admit_31 rfl ?_
        refine J_callS0 (pc := 33) (M := mX0_admit) (as := [.int (nI c3), .int (nI (d8 y2 (d8 ro c3)))]) dX0_admit_33 fw_X0_place fl_X0_45 fs_X0_place rfl (c_X0_place_atx hs (d := d - 1) (Nat.le_trans (by decide) hdm) (w := w) c3 (d8 y2 (d8 ro c3)) (kc := 0) (ks := 0)) hdp (st := []) (Nat.le_of_ble_eq_true rfl) rfl (kr_P fun v9 hv9 => ?_) kx_I
        subst hv9
        refine J_istore (pc := 36) dX0_admit_36 (by decide) rfl ?_
        show J X mX0_admit d kc ks 38 [some (.ref 2), some (.int (nI x)), some (.int (nI y2)), some (.int (nI c3)), some (.int (nI (d8 ro c3))), some (.int (nI (d8 y2 (d8 ro c3)))), some (.int (nI (c3 * 8 + (d8 y2 (d8 ro c3)))))] [] w _
        refine J_aload_n (pc := 38) dX0_admit_38 rfl rfl rfl ?_
        refine J_get (pc := 39) (k := 2) dX0_admit_39 kC2 (by decide) ff_X0_18 h2 rfl ?_
        refine J_iload_n (pc := 42) dX0_admit_42 rfl rfl ?_
        refine J_ialdF (pc := 43) dX0_admit_43 h5 (by omega) (by decide) ?_
        refine J_iload (pc := 44) dX0_admit_44 rfl ?_
        refine J_callSN0 (pc := 46) (M := mX0_admit) (as := [.int (nI (rc c3)), .int (nI (d8 y2 (d8 ro c3)))]) dX0_admit_46 fw_X6_has fl_X0_48 fs_X6_has rfl (c_X6_has_atx hs (d := d - 1) (Nat.le_trans (by decide) hdm) (w := w) (rc c3) (d8 y2 (d8 ro c3)) (by exact hy2.2.2.2.2.2.2.2 c3 (by omega)) (by omega) (kc := 0) (ks := 0)) hdp (st := []) (Nat.le_of_ble_eq_true rfl) rfl (kr_P fun v10 hv10 => ?_) kx_I
        rcases hv10 with ⟨rfl, hk10_0⟩ | ⟨rfl, hk10_0⟩
        · refine J_if_neN (pc := 49) (tgt := 78) dX0_admit_49 (by decide) (by decide) (fun h => absurd h (by decide)) (fun _ => ?_)
          have hrc : RC rc c3 (d8 y2 (d8 ro c3)) = false := (by assumption)
          have h31 := hy2.2.2.2.2.2.2.2 c3 (by omega)
          have h2g : 2 ^ (d8 y2 (d8 ro c3)) < 2 ^ 31 := Nat.pow_lt_pow_right (by decide) (by omega)
          refine J_aload_n (pc := 52) dX0_admit_52 rfl rfl rfl ?_
          refine J_get (pc := 53) (k := 2) dX0_admit_53 kC2 (by decide) ff_X0_18 h2 rfl ?_
          refine J_iload_n (pc := 56) dX0_admit_56 rfl rfl ?_
          refine J_dup2 (pc := 57) dX0_admit_57 rfl rfl ?_
          refine J_ialdF (pc := 58) dX0_admit_58 h5 (by omega) (by decide) ?_
          refine J_iconst (pc := 59) (v := nI 1) dX0_admit_59 (by decide) ?_
          refine J_iload (pc := 60) dX0_admit_60 rfl ?_
          refine J_shlOne (pc := 62) dX0_admit_62 (by omega) ?_
          refine J_iorN (pc := 63) dX0_admit_63 (by exact h31) (by exact h2g) ?_
          refine J_iastF (pc := 64) dX0_admit_64 h5 (by omega) (by decide) (fun w11 hln11 hc11 hne11 => ?_)
          have h2_11 := (hne11 2 (by decide)).trans h2
          have h3_11 := (hne11 3 (by decide)).trans h3
          have h4_11 := (hne11 4 (by decide)).trans h4
          have h6_11 := (hne11 6 (by decide)).trans h6
          have h7_11 := (hne11 7 (by decide)).trans h7
          have hF11 := hF.st hln11 hne11 (by decide)
          have h21 := (NEW_C hy1 hy2 (by omega) hv4_0 hrc).2.2.2
          refine J_aload_n (pc := 65) dX0_admit_65 rfl rfl rfl ?_
          refine J_iload (pc := 66) dX0_admit_66 rfl ?_
          refine J_iload_n (pc := 68) dX0_admit_68 rfl rfl ?_
          refine J_iload_n (pc := 69) dX0_admit_69 rfl rfl ?_
          refine J_callS0 (pc := 70) (M := mX0_admit) (as := [.int (nI y2)]) dX0_admit_70 fw_X2_undone fl_X0_89 fs_X2_undone rfl (c_X2_undone_atx hs (d := d - 1) (Nat.le_trans (by decide) hdm) (w := w11) y2 (by exact hv4_0.1.1) (by exact (hv4_0.1.p7 hy1).1) (by exact (hv4_0.1.p7 hy1).2) (kc := 0) (ks := 0)) hdp (st := [.int (nI y2), .int (nI (c3 * 8 + (d8 y2 (d8 ro c3)))), .ref 2]) (Nat.le_of_ble_eq_true rfl) rfl (kr_P fun v12 hv12 => ?_) kx_I
          subst hv12
          refine J_callV0 (pc := 73) (M := mX0_admit) (as := [.int (nI (c3 * 8 + (d8 y2 (d8 ro c3)))), .int (nI y2), .int (nI (i7 y2))]) dX0_admit_73 fw_X0_addStep fl_X0_92 fm_X0_addStep fe_X0_addStep h2_11 (by decide) rfl rfl rfl (c_X0_addStep_atx hs (d := d - 1) (Nat.le_trans (by decide) hdm) (w := w11) (st := st) (sv := sv) (rc := up rc c3 ((rc c3) ||| (2 ^ (d8 y2 (d8 ro c3))))) (sz := sz) (kw := kw) (ns := ns) (tk := tk) (ro := ro) (nn := nn) ⟨h2_11, h3_11, h4_11, hc11, h6_11, h7_11⟩ (c3 * 8 + (d8 y2 (d8 ro c3))) y2 (i7 y2) (by omega) (by omega) (kc := 0) (ks := 0)) hdp (st := []) (Nat.le_of_ble_eq_true rfl) rfl (kr_V fun w13 hw13 => ?_) kx_V
          obtain ⟨st13, sv13, kw13, ns13, hR13, hFc13, hp13_0, hp13_1, hp13_2, hp13_3⟩ := hw13
          obtain ⟨h2_13, h3_13, h4_13, h5_13, h6_13, h7_13⟩ := hR13
          have hF13 := hF11.tr hFc13
          have hadd := (⟨hp13_0, hp13_1, hp13_2, hp13_3⟩ : _ ∧ _ ∧ _ ∧ _)
          refine J_iconst (pc := 76) (v := nI 1) dX0_admit_76 (by decide) ?_
          exact J_zret (pc := 77) dX0_admit_77 rfl (nar_b (by first | decide | omega)) ⟨Or.inr (⟨rfl, (by exact SI_not hy1 hy2 (by omega) hv4_0 hrc)⟩), ⟨st13, sv13, up rc c3 ((rc c3) ||| (2 ^ (d8 y2 (d8 ro c3)))), kw13, ns13, ⟨h2_13, h3_13, h4_13, h5_13, h6_13, h7_13⟩, hF13, (by first | exact AD_0 hy2 (SI_n hy1 hy2 (by omega) hv4_0) | (obtain ⟨rfl, rfl, rfl, rfl⟩ := hadd; exact NEW hy1 hy2 (by omega) hv4_0 hrc)), (by first | exact fun _ => ⟨rfl, rfl, rfl, rfl, rfl⟩ | exact fun h => absurd h (SI_not hy1 hy2 (by omega) hv4_0 hrc))⟩⟩
        · refine J_if_neN (pc := 49) (tgt := 78) dX0_admit_49 (by decide) (by decide) (fun _ => ?_) (fun h => absurd h (by decide))
          refine J_iload (pc := 78) dX0_admit_78 rfl ?_
          refine J_iload (pc := 80) dX0_admit_80 rfl ?_
          refine J_icmp_eqN (pc := 82) (tgt := 97) dX0_admit_82 (by decide) (by omega) (by omega) (fun ht14 => ?_) (fun hf15 => ?_)
          · refine J_iincN (pc := 97) (b := 1) dX0_admit_97 rfl (by decide) (by decide) rfl ?_
            show J X mX0_admit d kc ks 100 [some (.ref 2), some (.int (nI x)), some (.int (nI y2)), some (.int (nI (c3 + 1))), some (.int (nI (d8 ro c3))), some (.int (nI (d8 y2 (d8 ro c3)))), some (.int (nI (c3 * 8 + (d8 y2 (d8 ro c3)))))] [] w _
            refine J_goto (pc := 100) (tgt := 4) dX0_admit_100 (by decide) ?_
            exact J_sub (L' := [some (.ref 2), some (.int (nI x)), some (.int (nI y2)), some (.int (nI (c3 + 1))), none, none, none]) ⟨rfl, ⟨rfl, ⟨rfl, ⟨rfl, trivial⟩⟩⟩⟩ (ihlp4_1 y2 (c3 + 1) (by first | exact SI_s1 hy1 hy2 (by omega) hv4_0 (by assumption) (by assumption) | exact SI_s0 hy1 hy2 (by omega) hv4_0 (by assumption)) (by first | assumption | omega) (by omega))
          · have hrt : RC rc c3 (d8 y2 (d8 ro c3)) = true := (by assumption)
            have hsv := hy2.2.2.2.1 c3 (d8 y2 (d8 ro c3)) (by omega) (by omega) hrt (by assumption)
            have hsl : sv (c3 * 8 + d8 y2 (d8 ro c3)) < 2 ^ (3 * 7) := (by rw [hsv]; exact mk8_lt (fun v => so_lt8 _ v 7 (by decide)) 7)
            refine J_iload_n (pc := 85) dX0_admit_85 rfl rfl ?_
            refine J_aload_n (pc := 86) dX0_admit_86 rfl rfl rfl ?_
            refine J_get (pc := 87) (k := 1) dX0_admit_87 kC2 (by decide) ff_X0_15 h2 rfl ?_
            refine J_iload (pc := 90) dX0_admit_90 rfl ?_
            refine J_ialdF (pc := 92) dX0_admit_92 h4 (by omega) (by decide) ?_
            refine J_callS0 (pc := 93) (M := mX0_admit) (as := [.int (nI y2), .int (nI (sv (c3 * 8 + (d8 y2 (d8 ro c3)))))]) dX0_admit_93 fw_X2_both fl_X0_80 fs_X2_both rfl (c_X2_both_atx hs (d := d - 1) (Nat.le_trans (by decide) hdm) (w := w) y2 (sv (c3 * 8 + (d8 y2 (d8 ro c3)))) (by exact hv4_0.1.1) (by exact hsl) (kc := 0) (ks := 0)) hdp (st := []) (Nat.le_of_ble_eq_true rfl) rfl (kr_P fun v16 hv16 => ?_) kx_I
            subst hv16
            refine J_istore_n (pc := 96) dX0_admit_96 rfl (by decide) rfl ?_
            show J X mX0_admit d kc ks 97 [some (.ref 2), some (.int (nI x)), some (.int (nI (c7 y2 (sv (c3 * 8 + (d8 y2 (d8 ro c3))))))), some (.int (nI c3)), some (.int (nI (d8 ro c3))), some (.int (nI (d8 y2 (d8 ro c3)))), some (.int (nI (c3 * 8 + (d8 y2 (d8 ro c3)))))] [] w _
            refine J_iincN (pc := 97) (b := 1) dX0_admit_97 rfl (by decide) (by decide) rfl ?_
            show J X mX0_admit d kc ks 100 [some (.ref 2), some (.int (nI x)), some (.int (nI (c7 y2 (sv (c3 * 8 + (d8 y2 (d8 ro c3))))))), some (.int (nI (c3 + 1))), some (.int (nI (d8 ro c3))), some (.int (nI (d8 y2 (d8 ro c3)))), some (.int (nI (c3 * 8 + (d8 y2 (d8 ro c3)))))] [] w _
            refine J_goto (pc := 100) (tgt := 4) dX0_admit_100 (by decide) ?_
            exact J_sub (L' := [some (.ref 2), some (.int (nI x)), some (.int (nI (c7 y2 (sv (c3 * 8 + (d8 y2 (d8 ro c3))))))), some (.int (nI (c3 + 1))), none, none, none]) ⟨rfl, ⟨rfl, ⟨rfl, ⟨rfl, trivial⟩⟩⟩⟩ (ihlp4_1 (c7 y2 (sv (c3 * 8 + (d8 y2 (d8 ro c3))))) (c3 + 1) (by first | exact SI_s1 hy1 hy2 (by omega) hv4_0 (by assumption) (by assumption) | exact SI_s0 hy1 hy2 (by omega) hv4_0 (by assumption)) (by first | assumption | omega) (by omega))
  exact J_sub (L' := [some (.ref 2), some (.int (nI x)), some (.int (nI x)), some (.int (nI 0)), none, none, none]) ⟨rfl, ⟨rfl, ⟨rfl, ⟨rfl, trivial⟩⟩⟩⟩ (lp4_1 _ x 0 (by exact SI_0 hy0) (by first | assumption | omega) (Nat.lt_succ_self _))
set_option maxRecDepth 100000 in
set_option maxHeartbeats 4000000 in
theorem c_X0_close_atx {X : jX} (hs : X.1.stackTraces = false) {d : Nat} (hd : 2 ≤ d) {st sv rc sz kw : Nat → Nat} {ns tk ro nn : Nat} {w : List jC} (hR : CM st sv rc sz kw ns tk ro nn w) (hy0 : nn ≤ 7) (hy1 : CI nn ro st sv rc kw ns) {kc ks : Nat} : jMet X mX0_close d kc ks [.ref 2] w (pV (fun w' => ∃ (st' : Nat → Nat), ∃ (sv' : Nat → Nat), ∃ (rc' : Nat → Nat), ∃ (kw' : Nat → Nat), ∃ (ns' : Nat), CM st' sv' rc' sz kw' ns' tk ro nn w' ∧ FC w w' ∧ (CI nn ro st' sv' rc' kw' ns') ∧ (GR nn rc st rc' st') ∧ (PQ nn rc' st' kw' ns') ∧ (∀ H : Nat → Prop, Cl nn H → Al nn rc st H → Al nn rc' st' H))) := by
  refine jMet_of hs (by decide +kernel) (Nat.le_of_ble_eq_true rfl) (L := [some (.ref 2), none, none]) rfl ?_
  have hdm : 1 ≤ d - 1 := by omega
  have hdp : d - 1 + 1 ≤ d := by omega
  obtain ⟨h2, h3, h4, h5, h6, h7⟩ := hR
  have hF : FC w w := FC.rf
  refine J_iconst (pc := 0) (v := nI 0) dX0_close_0 (by decide) ?_
  refine J_istore_n (pc := 1) dX0_close_1 rfl (by decide) rfl ?_
  show J X mX0_close d kc ks 2 [some (.ref 2), some (.int (nI 0)), none] [] w _
  have lp2_1 : ∀ (fuel : Nat) (w2 : List jC) (st_2 : Nat → Nat) (sv_2 : Nat → Nat) (rc_2 : Nat → Nat) (kw_2 : Nat → Nat) (ns_2 : Nat) (c1 : Nat), (CM st_2 sv_2 rc_2 sz kw_2 ns_2 tk ro nn w2) → (FC w w2) → (CI nn ro st_2 sv_2 rc_2 kw_2 ns_2) → (GR nn rc st rc_2 st_2) → (PQ nn rc_2 st_2 kw_2 c1) → (∀ H : Nat → Prop, Cl nn H → Al nn rc st H → Al nn rc_2 st_2 H) → (c1 ≤ 21) → (21 - c1 < fuel) → J X mX0_close d kc ks 2 [some (.ref 2), some (.int (nI c1)), none] [] w2 (pV (fun w' => ∃ (st' : Nat → Nat), ∃ (sv' : Nat → Nat), ∃ (rc' : Nat → Nat), ∃ (kw' : Nat → Nat), ∃ (ns' : Nat), CM st' sv' rc' sz kw' ns' tk ro nn w' ∧ FC w w' ∧ (CI nn ro st' sv' rc' kw' ns') ∧ (GR nn rc st rc' st') ∧ (PQ nn rc' st' kw' ns') ∧ (∀ H : Nat → Prop, Cl nn H → Al nn rc st H → Al nn rc' st' H))) := by
    intro fuellp2_1
    induction fuellp2_1 with
    | zero => intros; omega
    | succ fuellp2_1 ihlp2_1 =>
      intro w2 st_2 sv_2 rc_2 kw_2 ns_2 c1 hR3 hF4 hv2_0 hv2_1 hv2_2 hv2_3 hv2_4 hf5
      obtain ⟨h2_6, h3_6, h4_6, h5_6, h6_6, h7_6⟩ := hR3
      refine J_iload_n (pc := 2) dX0_close_2 rfl rfl ?_
      refine J_bipush (pc := 3) (v := nI 21) dX0_close_3 (by decide) ?_
      refine J_icmp_geN (pc := 5) (tgt := 75) dX0_close_5 (by decide) (by omega) (by omega) (fun ht7 => ?_) (fun hf8 => ?_)
      · exact J_vret (pc := 75) dX0_close_75 rfl (⟨st_2, sv_2, rc_2, kw_2, ns_2, ⟨h2_6, h3_6, h4_6, h5_6, h6_6, h7_6⟩, hF4, (by assumption), (by assumption), (by exact fun i j hi hj => hv2_2 i j (by have := CI_ns21 hy0 hv2_0; omega) (by have := CI_ns21 hy0 hv2_0; omega)), (by assumption)⟩)
      · refine J_iload_n (pc := 8) dX0_close_8 rfl rfl ?_
        refine J_aload_n (pc := 9) dX0_close_9 rfl rfl rfl ?_
        refine J_get (pc := 10) (k := 5) dX0_close_10 kC2 (by decide) ff_X0_27 h2_6 rfl ?_
        have hnz := CI_ns21 hy0 hv2_0
        refine J_icmp_geN (pc := 13) (tgt := 75) dX0_close_13 (by decide) (by omega) (by omega) (fun ht9 => ?_) (fun hf10 => ?_)
        · exact J_vret (pc := 75) dX0_close_75 rfl (⟨st_2, sv_2, rc_2, kw_2, ns_2, ⟨h2_6, h3_6, h4_6, h5_6, h6_6, h7_6⟩, hF4, (by assumption), (by assumption), (by exact fun i j hi hj => hv2_2 i j (by have := CI_ns21 hy0 hv2_0; omega) (by have := CI_ns21 hy0 hv2_0; omega)), (by assumption)⟩)
        · refine J_iconst (pc := 16) (v := nI 0) dX0_close_16 (by decide) ?_
          refine J_istore_n (pc := 17) dX0_close_17 rfl (by decide) rfl ?_
          show J X mX0_close d kc ks 18 [some (.ref 2), some (.int (nI c1)), some (.int (nI 0))] [] w2 _
          have lp18_11 : ∀ (fuel : Nat) (w12 : List jC) (st_18 : Nat → Nat) (sv_18 : Nat → Nat) (rc_18 : Nat → Nat) (kw_18 : Nat → Nat) (ns_18 : Nat) (c2 : Nat), (CM st_18 sv_18 rc_18 sz kw_18 ns_18 tk ro nn w12) → (FC w w12) → (CI nn ro st_18 sv_18 rc_18 kw_18 ns_18) → (GR nn rc st rc_18 st_18) → (PQ nn rc_18 st_18 kw_18 c1) → (∀ j, j < c2 → (CP nn (RC rc_18) (ST st_18) nn (cM nn (kw_18 c1) (kw_18 j))) ∧ (CP nn (RC rc_18) (ST st_18) nn (cM nn (kw_18 j) (kw_18 c1)))) → (∀ H : Nat → Prop, Cl nn H → Al nn rc st H → Al nn rc_18 st_18 H) → (c1 < ns_18) → (c2 ≤ c1 + 1) → (c1 + 1 - c2 < fuel) → J X mX0_close d kc ks 18 [some (.ref 2), some (.int (nI c1)), some (.int (nI c2))] [] w12 (pV (fun w' => ∃ (st' : Nat → Nat), ∃ (sv' : Nat → Nat), ∃ (rc' : Nat → Nat), ∃ (kw' : Nat → Nat), ∃ (ns' : Nat), CM st' sv' rc' sz kw' ns' tk ro nn w' ∧ FC w w' ∧ (CI nn ro st' sv' rc' kw' ns') ∧ (GR nn rc st rc' st') ∧ (PQ nn rc' st' kw' ns') ∧ (∀ H : Nat → Prop, Cl nn H → Al nn rc st H → Al nn rc' st' H))) := by
            intro fuellp18_11
            induction fuellp18_11 with
            | zero => intros; omega
            | succ fuellp18_11 ihlp18_11 =>
              intro w12 st_18 sv_18 rc_18 kw_18 ns_18 c2 hR13 hF14 hv18_0 hv18_1 hv18_2 hv18_3 hv18_4 hv18_5 hv18_6 hf15
              obtain ⟨h2_16, h3_16, h4_16, h5_16, h6_16, h7_16⟩ := hR13
              refine J_iload_n (pc := 18) dX0_close_18 rfl rfl ?_
              refine J_iload_n (pc := 19) dX0_close_19 rfl rfl ?_
              refine J_icmp_gtN (pc := 20) (tgt := 69) dX0_close_20 (by decide) (by omega) (by omega) (fun ht17 => ?_) (fun hf18 => ?_)
              · refine J_iincN (pc := 69) (b := 1) dX0_close_69 rfl (by decide) (by decide) rfl ?_
                show J X mX0_close d kc ks 72 [some (.ref 2), some (.int (nI (c1 + 1))), some (.int (nI c2))] [] w12 _
                refine J_goto (pc := 72) (tgt := 2) dX0_close_72 (by decide) ?_
                exact J_sub (L' := [some (.ref 2), some (.int (nI (c1 + 1))), none]) ⟨rfl, ⟨rfl, trivial⟩⟩ (ihlp2_1 w12 st_18 sv_18 rc_18 kw_18 ns_18 (c1 + 1) ⟨h2_16, h3_16, h4_16, h5_16, h6_16, h7_16⟩ hF14 (by exact hv18_0) (by exact hv18_1) (by exact PQ_s hv18_2 (fun j hj => hv18_3 j (by omega))) (by exact hv18_4) (by first | assumption | omega) (by omega))
              · have hk1 := kw_M hv18_0 (show c1 < ns_18 by omega)
                have hk2 := kw_M hv18_0 (show c2 < ns_18 by omega)
                have hb1 := c7_M hy0 hk1 hk2
                have hn21 := CI_ns21 hy0 hv18_0
                refine J_aload_n (pc := 23) dX0_close_23 rfl rfl rfl ?_
                refine J_aload_n (pc := 24) dX0_close_24 rfl rfl rfl ?_
                refine J_get (pc := 25) (k := 4) dX0_close_25 kC2 (by decide) ff_X0_24 h2_16 rfl ?_
                refine J_iload_n (pc := 28) dX0_close_28 rfl rfl ?_
                refine J_ialdF (pc := 29) dX0_close_29 h7_16 (by omega) (by decide) ?_
                refine J_aload_n (pc := 30) dX0_close_30 rfl rfl rfl ?_
                refine J_get (pc := 31) (k := 4) dX0_close_31 kC2 (by decide) ff_X0_24 h2_16 rfl ?_
                refine J_iload_n (pc := 34) dX0_close_34 rfl rfl ?_
                refine J_ialdF (pc := 35) dX0_close_35 h7_16 (by omega) (by decide) ?_
                refine J_callS0 (pc := 36) (M := mX0_close) (as := [.int (nI (kw_18 c1)), .int (nI (kw_18 c2))]) dX0_close_36 fw_X2_both fl_X0_80 fs_X2_both rfl (c_X2_both_atx hs (d := d - 1) (Nat.le_trans (by decide) hdm) (w := w12) (kw_18 c1) (kw_18 c2) (by exact hk1.1) (by exact hk2.1) (kc := 0) (ks := 0)) hdp (st := [.ref 2]) (Nat.le_of_ble_eq_true rfl) rfl (kr_P fun v19 hv19 => ?_) kx_I
                subst hv19
                refine J_callV0 (pc := 39) (M := mX0_close) (as := [.int (nI (c7 (kw_18 c1) (kw_18 c2)))]) dX0_close_39 fw_X0_admit fl_X0_54 fm_X0_admit fe_X0_admit h2_16 (by decide) rfl rfl rfl (c_X0_admit_atx hs (d := d - 1) (Nat.le_trans (by decide) hdm) (w := w12) (st := st_18) (sv := sv_18) (rc := rc_18) (sz := sz) (kw := kw_18) (ns := ns_18) (tk := tk) (ro := ro) (nn := nn) ⟨h2_16, h3_16, h4_16, h5_16, h6_16, h7_16⟩ (c7 (kw_18 c1) (kw_18 c2)) (by rw [hb1]; exact cM_Mv hy0 hk1 hk2) (by assumption) (by exact hv18_0) (kc := 0) (ks := 0)) hdp (st := []) (Nat.le_of_ble_eq_true rfl) rfl (kr_I fun v20 w20 hv20 hw20 => ?_) kx_I
                obtain ⟨st20, sv20, rc20, kw20, ns20, hR20, hFc20, hp20_0, hp20_1⟩ := hw20
                obtain ⟨h2_20, h3_20, h4_20, h5_20, h6_20, h7_20⟩ := hR20
                have hF20 := hF14.tr hFc20
                have had1 := hp20_0
                rw [hb1] at had1
                rcases hv20 with ⟨rfl, hk20_0⟩ | ⟨rfl, hk20_0⟩
                · refine J_pop (pc := 42) dX0_close_42 rfl ?_
                  have hk3 := had1.2.2.2.1 c1 (by omega)
                  have hk4 := had1.2.2.2.1 c2 (by omega)
                  have hn22 := CI_ns21 hy0 had1.1
                  have hb2 := c7_M hy0 hk2 hk1
                  refine J_aload_n (pc := 43) dX0_close_43 rfl rfl rfl ?_
                  refine J_aload_n (pc := 44) dX0_close_44 rfl rfl rfl ?_
                  refine J_get (pc := 45) (k := 4) dX0_close_45 kC2 (by decide) ff_X0_24 h2_20 rfl ?_
                  refine J_iload_n (pc := 48) dX0_close_48 rfl rfl ?_
                  refine J_ialdF (pc := 49) dX0_close_49 h7_20 (by omega) (by decide) ?_
                  refine J_aload_n (pc := 50) dX0_close_50 rfl rfl rfl ?_
                  refine J_get (pc := 51) (k := 4) dX0_close_51 kC2 (by decide) ff_X0_24 h2_20 rfl ?_
                  refine J_iload_n (pc := 54) dX0_close_54 rfl rfl ?_
                  refine J_ialdF (pc := 55) dX0_close_55 h7_20 (by omega) (by decide) ?_
                  refine J_callS0 (pc := 56) (M := mX0_close) (as := [.int (nI (kw20 c2)), .int (nI (kw20 c1))]) dX0_close_56 fw_X2_both fl_X0_80 fs_X2_both rfl (c_X2_both_atx hs (d := d - 1) (Nat.le_trans (by decide) hdm) (w := w20) (kw20 c2) (kw20 c1) (by rw [hk4]; exact hk2.1) (by rw [hk3]; exact hk1.1) (kc := 0) (ks := 0)) hdp (st := [.ref 2]) (Nat.le_of_ble_eq_true rfl) rfl (kr_P fun v21 hv21 => ?_) kx_I
                  subst hv21
                  refine J_callV0 (pc := 59) (M := mX0_close) (as := [.int (nI (c7 (kw20 c2) (kw20 c1)))]) dX0_close_59 fw_X0_admit fl_X0_54 fm_X0_admit fe_X0_admit h2_20 (by decide) rfl rfl rfl (c_X0_admit_atx hs (d := d - 1) (Nat.le_trans (by decide) hdm) (w := w20) (st := st20) (sv := sv20) (rc := rc20) (sz := sz) (kw := kw20) (ns := ns20) (tk := tk) (ro := ro) (nn := nn) ⟨h2_20, h3_20, h4_20, h5_20, h6_20, h7_20⟩ (c7 (kw20 c2) (kw20 c1)) (by rw [hk3, hk4, hb2]; exact cM_Mv hy0 hk2 hk1) (by assumption) (by exact had1.1) (kc := 0) (ks := 0)) hdp (st := []) (Nat.le_of_ble_eq_true rfl) rfl (kr_I fun v22 w22 hv22 hw22 => ?_) kx_I
                  obtain ⟨st22, sv22, rc22, kw22, ns22, hR22, hFc22, hp22_0, hp22_1⟩ := hw22
                  obtain ⟨h2_22, h3_22, h4_22, h5_22, h6_22, h7_22⟩ := hR22
                  have hF22 := hF20.tr hFc22
                  have had2 := hp22_0
                  rw [hk3, hk4, hb2] at had2
                  rcases hv22 with ⟨rfl, hk22_0⟩ | ⟨rfl, hk22_0⟩
                  · refine J_pop (pc := 62) dX0_close_62 rfl ?_
                    refine J_iincN (pc := 63) (b := 1) dX0_close_63 rfl (by decide) (by decide) rfl ?_
                    show J X mX0_close d kc ks 66 [some (.ref 2), some (.int (nI c1)), some (.int (nI (c2 + 1)))] [] w22 _
                    refine J_goto (pc := 66) (tgt := 18) dX0_close_66 (by decide) ?_
                    exact J_sub (L' := [some (.ref 2), some (.int (nI c1)), some (.int (nI (c2 + 1)))]) ⟨rfl, ⟨rfl, ⟨rfl, trivial⟩⟩⟩ (ihlp18_11 w22 st22 sv22 rc22 kw22 ns22 (c2 + 1) ⟨h2_22, h3_22, h4_22, h5_22, h6_22, h7_22⟩ hF22 (by exact had2.1) (by exact (hv18_1.tr had1.2.1).tr had2.2.1) (by exact (hv18_2.grow had1.2.1 (fun i hi => had1.2.2.2.1 i (by omega))).grow had2.2.1 (fun i hi => had2.2.2.2.1 i (by have := had1.2.2.2.2.1; omega))) (by exact PW_s hy0 (by omega) (by omega) hv18_3 had1 had2) (by exact fun H h1 h2 => had2.2.2.2.2.2 H h1 (had1.2.2.2.2.2 H h1 (hv18_4 H h1 h2) (h1.1 _ _ hk1 hk2 (kw_H hv18_0 (hv18_4 H h1 h2) (by omega)) (kw_H hv18_0 (hv18_4 H h1 h2) (by omega)))) (h1.1 _ _ hk2 hk1 (kw_H hv18_0 (hv18_4 H h1 h2) (by omega)) (kw_H hv18_0 (hv18_4 H h1 h2) (by omega)))) (by have q1 := had1.2.2.2.2.1; have q2 := had2.2.2.2.2.1; omega) (by first | assumption | omega) (by omega))
                  · refine J_pop (pc := 62) dX0_close_62 rfl ?_
                    refine J_iincN (pc := 63) (b := 1) dX0_close_63 rfl (by decide) (by decide) rfl ?_
                    show J X mX0_close d kc ks 66 [some (.ref 2), some (.int (nI c1)), some (.int (nI (c2 + 1)))] [] w22 _
                    refine J_goto (pc := 66) (tgt := 18) dX0_close_66 (by decide) ?_
                    exact J_sub (L' := [some (.ref 2), some (.int (nI c1)), some (.int (nI (c2 + 1)))]) ⟨rfl, ⟨rfl, ⟨rfl, trivial⟩⟩⟩ (ihlp18_11 w22 st22 sv22 rc22 kw22 ns22 (c2 + 1) ⟨h2_22, h3_22, h4_22, h5_22, h6_22, h7_22⟩ hF22 (by exact had2.1) (by exact (hv18_1.tr had1.2.1).tr had2.2.1) (by exact (hv18_2.grow had1.2.1 (fun i hi => had1.2.2.2.1 i (by omega))).grow had2.2.1 (fun i hi => had2.2.2.2.1 i (by have := had1.2.2.2.2.1; omega))) (by exact PW_s hy0 (by omega) (by omega) hv18_3 had1 had2) (by exact fun H h1 h2 => had2.2.2.2.2.2 H h1 (had1.2.2.2.2.2 H h1 (hv18_4 H h1 h2) (h1.1 _ _ hk1 hk2 (kw_H hv18_0 (hv18_4 H h1 h2) (by omega)) (kw_H hv18_0 (hv18_4 H h1 h2) (by omega)))) (h1.1 _ _ hk2 hk1 (kw_H hv18_0 (hv18_4 H h1 h2) (by omega)) (kw_H hv18_0 (hv18_4 H h1 h2) (by omega)))) (by have q1 := had1.2.2.2.2.1; have q2 := had2.2.2.2.2.1; omega) (by first | assumption | omega) (by omega))
                · refine J_pop (pc := 42) dX0_close_42 rfl ?_
                  have hk3 := had1.2.2.2.1 c1 (by omega)
                  have hk4 := had1.2.2.2.1 c2 (by omega)
                  have hn22 := CI_ns21 hy0 had1.1
                  have hb2 := c7_M hy0 hk2 hk1
                  refine J_aload_n (pc := 43) dX0_close_43 rfl rfl rfl ?_
                  refine J_aload_n (pc := 44) dX0_close_44 rfl rfl rfl ?_
                  refine J_get (pc := 45) (k := 4) dX0_close_45 kC2 (by decide) ff_X0_24 h2_20 rfl ?_
                  refine J_iload_n (pc := 48) dX0_close_48 rfl rfl ?_
                  refine J_ialdF (pc := 49) dX0_close_49 h7_20 (by omega) (by decide) ?_
                  refine J_aload_n (pc := 50) dX0_close_50 rfl rfl rfl ?_
                  refine J_get (pc := 51) (k := 4) dX0_close_51 kC2 (by decide) ff_X0_24 h2_20 rfl ?_
                  refine J_iload_n (pc := 54) dX0_close_54 rfl rfl ?_
                  refine J_ialdF (pc := 55) dX0_close_55 h7_20 (by omega) (by decide) ?_
                  refine J_callS0 (pc := 56) (M := mX0_close) (as := [.int (nI (kw20 c2)), .int (nI (kw20 c1))]) dX0_close_56 fw_X2_both fl_X0_80 fs_X2_both rfl (c_X2_both_atx hs (d := d - 1) (Nat.le_trans (by decide) hdm) (w := w20) (kw20 c2) (kw20 c1) (by rw [hk4]; exact hk2.1) (by rw [hk3]; exact hk1.1) (kc := 0) (ks := 0)) hdp (st := [.ref 2]) (Nat.le_of_ble_eq_true rfl) rfl (kr_P fun v23 hv23 => ?_) kx_I
                  subst hv23
                  refine J_callV0 (pc := 59) (M := mX0_close) (as := [.int (nI (c7 (kw20 c2) (kw20 c1)))]) dX0_close_59 fw_X0_admit fl_X0_54 fm_X0_admit fe_X0_admit h2_20 (by decide) rfl rfl rfl (c_X0_admit_atx hs (d := d - 1) (Nat.le_trans (by decide) hdm) (w := w20) (st := st20) (sv := sv20) (rc := rc20) (sz := sz) (kw := kw20) (ns := ns20) (tk := tk) (ro := ro) (nn := nn) ⟨h2_20, h3_20, h4_20, h5_20, h6_20, h7_20⟩ (c7 (kw20 c2) (kw20 c1)) (by rw [hk3, hk4, hb2]; exact cM_Mv hy0 hk2 hk1) (by assumption) (by exact had1.1) (kc := 0) (ks := 0)) hdp (st := []) (Nat.le_of_ble_eq_true rfl) rfl (kr_I fun v24 w24 hv24 hw24 => ?_) kx_I
                  obtain ⟨st24, sv24, rc24, kw24, ns24, hR24, hFc24, hp24_0, hp24_1⟩ := hw24
                  obtain ⟨h2_24, h3_24, h4_24, h5_24, h6_24, h7_24⟩ := hR24
                  have hF24 := hF20.tr hFc24
                  have had2 := hp24_0
                  rw [hk3, hk4, hb2] at had2
                  rcases hv24 with ⟨rfl, hk24_0⟩ | ⟨rfl, hk24_0⟩
                  · refine J_pop (pc := 62) dX0_close_62 rfl ?_
                    refine J_iincN (pc := 63) (b := 1) dX0_close_63 rfl (by decide) (by decide) rfl ?_
                    show J X mX0_close d kc ks 66 [some (.ref 2), some (.int (nI c1)), some (.int (nI (c2 + 1)))] [] w24 _
                    refine J_goto (pc := 66) (tgt := 18) dX0_close_66 (by decide) ?_
                    exact J_sub (L' := [some (.ref 2), some (.int (nI c1)), some (.int (nI (c2 + 1)))]) ⟨rfl, ⟨rfl, ⟨rfl, trivial⟩⟩⟩ (ihlp18_11 w24 st24 sv24 rc24 kw24 ns24 (c2 + 1) ⟨h2_24, h3_24, h4_24, h5_24, h6_24, h7_24⟩ hF24 (by exact had2.1) (by exact (hv18_1.tr had1.2.1).tr had2.2.1) (by exact (hv18_2.grow had1.2.1 (fun i hi => had1.2.2.2.1 i (by omega))).grow had2.2.1 (fun i hi => had2.2.2.2.1 i (by have := had1.2.2.2.2.1; omega))) (by exact PW_s hy0 (by omega) (by omega) hv18_3 had1 had2) (by exact fun H h1 h2 => had2.2.2.2.2.2 H h1 (had1.2.2.2.2.2 H h1 (hv18_4 H h1 h2) (h1.1 _ _ hk1 hk2 (kw_H hv18_0 (hv18_4 H h1 h2) (by omega)) (kw_H hv18_0 (hv18_4 H h1 h2) (by omega)))) (h1.1 _ _ hk2 hk1 (kw_H hv18_0 (hv18_4 H h1 h2) (by omega)) (kw_H hv18_0 (hv18_4 H h1 h2) (by omega)))) (by have q1 := had1.2.2.2.2.1; have q2 := had2.2.2.2.2.1; omega) (by first | assumption | omega) (by omega))
                  · refine J_pop (pc := 62) dX0_close_62 rfl ?_
                    refine J_iincN (pc := 63) (b := 1) dX0_close_63 rfl (by decide) (by decide) rfl ?_
                    show J X mX0_close d kc ks 66 [some (.ref 2), some (.int (nI c1)), some (.int (nI (c2 + 1)))] [] w24 _
                    refine J_goto (pc := 66) (tgt := 18) dX0_close_66 (by decide) ?_
                    exact J_sub (L' := [some (.ref 2), some (.int (nI c1)), some (.int (nI (c2 + 1)))]) ⟨rfl, ⟨rfl, ⟨rfl, trivial⟩⟩⟩ (ihlp18_11 w24 st24 sv24 rc24 kw24 ns24 (c2 + 1) ⟨h2_24, h3_24, h4_24, h5_24, h6_24, h7_24⟩ hF24 (by exact had2.1) (by exact (hv18_1.tr had1.2.1).tr had2.2.1) (by exact (hv18_2.grow had1.2.1 (fun i hi => had1.2.2.2.1 i (by omega))).grow had2.2.1 (fun i hi => had2.2.2.2.1 i (by have := had1.2.2.2.2.1; omega))) (by exact PW_s hy0 (by omega) (by omega) hv18_3 had1 had2) (by exact fun H h1 h2 => had2.2.2.2.2.2 H h1 (had1.2.2.2.2.2 H h1 (hv18_4 H h1 h2) (h1.1 _ _ hk1 hk2 (kw_H hv18_0 (hv18_4 H h1 h2) (by omega)) (kw_H hv18_0 (hv18_4 H h1 h2) (by omega)))) (h1.1 _ _ hk2 hk1 (kw_H hv18_0 (hv18_4 H h1 h2) (by omega)) (kw_H hv18_0 (hv18_4 H h1 h2) (by omega)))) (by have q1 := had1.2.2.2.2.1; have q2 := had2.2.2.2.2.1; omega) (by first | assumption | omega) (by omega))
          exact J_sub (L' := [some (.ref 2), some (.int (nI c1)), some (.int (nI 0))]) ⟨rfl, ⟨rfl, ⟨rfl, trivial⟩⟩⟩ (lp18_11 _ w2 st_2 sv_2 rc_2 kw_2 ns_2 0 ⟨h2_6, h3_6, h4_6, h5_6, h6_6, h7_6⟩ hF4 (by assumption) (by exact hv2_1) (by exact hv2_2) (by exact fun j hj => absurd hj (Nat.not_lt_zero j)) (by exact hv2_3) (by omega) (by first | assumption | omega) (Nat.lt_succ_self _))
  exact J_sub (L' := [some (.ref 2), some (.int (nI 0)), none]) ⟨rfl, ⟨rfl, trivial⟩⟩ (lp2_1 _ w st sv rc kw ns 0 ⟨h2, h3, h4, h5, h6, h7⟩ hF (by assumption) (by exact GR.rf) (by exact fun i j hi => absurd hi (Nat.not_lt_zero i)) (by exact fun _ _ h => h) (by first | assumption | omega) (Nat.lt_succ_self _))
set_option maxRecDepth 100000 in
set_option maxHeartbeats 4000000 in
theorem c_X0_measure_atx {X : jX} (hs : X.1.stackTraces = false) {d : Nat} (hd : 1 ≤ d) {st sv rc sz kw : Nat → Nat} {ns tk ro nn : Nat} {w : List jC} (hR : CM st sv rc sz kw ns tk ro nn w) (hy0 : nn ≤ 7) (hy1 : ∀ l, l < nn → rc l < 2 ^ 31) {kc ks : Nat} : jMet X mX0_measure d kc ks [.ref 2] w (pV (fun w' => ∃ (sz' : Nat → Nat), CM st sv rc sz' kw ns tk ro nn w' ∧ FC w w' ∧ (∀ l, l ≤ nn → sz' l = zF rc nn (nn - l)))) := by
  refine jMet_of hs (by decide +kernel) (Nat.le_of_ble_eq_true rfl) (L := [some (.ref 2), none]) rfl ?_
  have hdm : 0 ≤ d - 1 := by omega
  have hdp : d - 1 + 1 ≤ d := by omega
  obtain ⟨h2, h3, h4, h5, h6, h7⟩ := hR
  have hF : FC w w := FC.rf
  refine J_aload_n (pc := 0) dX0_measure_0 rfl rfl rfl ?_
  refine J_get (pc := 1) (k := 3) dX0_measure_1 kC2 (by decide) ff_X0_21 h2 rfl ?_
  refine J_aload_n (pc := 4) dX0_measure_4 rfl rfl rfl ?_
  refine J_get (pc := 5) (k := 8) dX0_measure_5 kC2 (by decide) ff_X0_38 h2 rfl ?_
  refine J_iconst (pc := 8) (v := nI 1) dX0_measure_8 (by decide) ?_
  refine J_iastF (pc := 9) dX0_measure_9 h6 (by omega) (by decide) (fun w1 hln1 hc1 hne1 => ?_)
  have h2_1 := (hne1 2 (by decide)).trans h2
  have h3_1 := (hne1 3 (by decide)).trans h3
  have h4_1 := (hne1 4 (by decide)).trans h4
  have h5_1 := (hne1 5 (by decide)).trans h5
  have h7_1 := (hne1 7 (by decide)).trans h7
  have hF1 := hF.st hln1 hne1 (by decide)
  refine J_aload_n (pc := 10) dX0_measure_10 rfl rfl rfl ?_
  refine J_get (pc := 11) (k := 8) dX0_measure_11 kC2 (by decide) ff_X0_38 h2_1 rfl ?_
  refine J_iconst (pc := 14) (v := nI 1) dX0_measure_14 (by decide) ?_
  refine J_isubM (pc := 15) dX0_measure_15 ?_
  refine J_istore_n (pc := 16) dX0_measure_16 rfl (by decide) rfl ?_
  show J X mX0_measure d kc ks 17 [some (.ref 2), some (.int (nI nn + Int32.ofInt (-1)))] [] w1 _
  have lp17_2 : ∀ (fuel : Nat) (w3 : List jC) (sz_17 : Nat → Nat) (c1 : Nat), (CM st sv rc sz_17 kw ns tk ro nn w3) → (FC w w3) → (∀ l, c1 ≤ l → l ≤ nn → sz_17 l = zF rc nn (nn - l)) → (c1 ≤ nn) → (c1 < fuel) → J X mX0_measure d kc ks 17 [some (.ref 2), some (.int (nI c1 + Int32.ofInt (-1)))] [] w3 (pV (fun w' => ∃ (sz' : Nat → Nat), CM st sv rc sz' kw ns tk ro nn w' ∧ FC w w' ∧ (∀ l, l ≤ nn → sz' l = zF rc nn (nn - l)))) := by
    intro fuellp17_2
    induction fuellp17_2 with
    | zero => intros; omega
    | succ fuellp17_2 ihlp17_2 =>
      intro w3 sz_17 c1 hR4 hF5 hv17_0 hv17_1 hf6
      obtain ⟨h2_7, h3_7, h4_7, h5_7, h6_7, h7_7⟩ := hR4
      refine J_iload_n (pc := 17) dX0_measure_17 rfl rfl ?_
      refine J_if_ltM (pc := 18) (tgt := 51) dX0_measure_18 (by decide) (by omega) (fun ht8 => ?_) (fun hf9 => ?_)
      · exact J_vret (pc := 51) dX0_measure_51 rfl (⟨sz_17, ⟨h2_7, h3_7, h4_7, h5_7, h6_7, h7_7⟩, hF5, (by exact fun l hl => hv17_0 l (by omega) hl)⟩)
      · rw [nI_m1 hf9]
        refine J_aload_n (pc := 21) dX0_measure_21 rfl rfl rfl ?_
        refine J_get (pc := 22) (k := 3) dX0_measure_22 kC2 (by decide) ff_X0_21 h2_7 rfl ?_
        refine J_iload_n (pc := 25) dX0_measure_25 rfl rfl ?_
        refine J_aload_n (pc := 26) dX0_measure_26 rfl rfl rfl ?_
        refine J_get (pc := 27) (k := 3) dX0_measure_27 kC2 (by decide) ff_X0_21 h2_7 rfl ?_
        refine J_iload_n (pc := 30) dX0_measure_30 rfl rfl ?_
        refine J_iconst (pc := 31) (v := nI 1) dX0_measure_31 (by decide) ?_
        refine J_iaddN (pc := 32) dX0_measure_32 ?_
        refine J_ialdF (pc := 33) dX0_measure_33 h6_7 (by omega) (by decide) ?_
        refine J_aload_n (pc := 34) dX0_measure_34 rfl rfl rfl ?_
        refine J_get (pc := 35) (k := 2) dX0_measure_35 kC2 (by decide) ff_X0_18 h2_7 rfl ?_
        refine J_iload_n (pc := 38) dX0_measure_38 rfl rfl ?_
        refine J_ialdF (pc := 39) dX0_measure_39 h5_7 (by omega) (by decide) ?_
        refine J_callS0 (pc := 40) (M := mX0_measure) (as := [.int (nI (rc (c1 - 1)))]) dX0_measure_40 fw_J6_bitCount_0f7a4 fl_X0_96 fs_J6_bitCount_0f7a4 rfl (c_J6_bitCount_0f7a4_atx hs (d := d - 1) (Nat.le_trans (by decide) hdm) (w := w3) (nI (rc (c1 - 1))) (kc := 0) (ks := 0)) hdp (st := [.int (nI (sz_17 ((c1 - 1) + 1))), .int (nI (c1 - 1)), .ref 6]) (Nat.le_of_ble_eq_true rfl) rfl (kr_P fun v10 hv10 => ?_) kx_I
        subst hv10
        refine J_imulN (pc := 43) dX0_measure_43 ?_
        refine J_iastF (pc := 44) dX0_measure_44 h6_7 (by omega) (by decide) (fun w11 hln11 hc11 hne11 => ?_)
        have h2_11 := (hne11 2 (by decide)).trans h2_7
        have h3_11 := (hne11 3 (by decide)).trans h3_7
        have h4_11 := (hne11 4 (by decide)).trans h4_7
        have h5_11 := (hne11 5 (by decide)).trans h5_7
        have h7_11 := (hne11 7 (by decide)).trans h7_7
        have hF11 := hF5.st hln11 hne11 (by decide)
        refine J_iinc (pc := 45) dX0_measure_45 rfl rfl (by decide) rfl ?_
        show J X mX0_measure d kc ks 48 [some (.ref 2), some (.int (nI (c1 - 1) + Int32.ofInt (-1)))] [] w11 _
        refine J_goto (pc := 48) (tgt := 17) dX0_measure_48 (by decide) ?_
        exact J_sub (L' := [some (.ref 2), some (.int (nI (c1 - 1) + Int32.ofInt (-1)))]) ⟨rfl, ⟨rfl, trivial⟩⟩ (ihlp17_2 w11 (up sz_17 (c1 - 1) ((sz_17 ((c1 - 1) + 1)) * (pc32 (nI (rc (c1 - 1)))))) (c1 - 1) ⟨h2_11, h3_11, h4_11, h5_11, hc11, h7_11⟩ hF11 (by exact zF_s (by omega) (by omega) hy1 hv17_0) (by first | assumption | omega) (by omega))
  exact J_sub (L' := [some (.ref 2), some (.int (nI nn + Int32.ofInt (-1)))]) ⟨rfl, ⟨rfl, trivial⟩⟩ (lp17_2 _ w1 (up sz nn 1) nn ⟨h2_1, h3_1, h4_1, h5_1, hc1, h7_1⟩ hF1 (by exact zF_0) (by first | assumption | omega) (Nat.lt_succ_self _))
set_option maxRecDepth 100000 in
set_option maxHeartbeats 4000000 in
theorem c_X0_total_atx {X : jX} (hs : X.1.stackTraces = false) {d : Nat} (hd : 0 ≤ d) {st sv rc sz kw : Nat → Nat} {ns tk ro nn : Nat} {w : List jC} (hR : CM st sv rc sz kw ns tk ro nn w) {kc ks : Nat} : jMet X mX0_total d kc ks [.ref 2] w (pI (fun v => v = nI (sz 0)) (fun w' => w' = w)) := by
  refine jMet_of hs (by decide +kernel) (Nat.le_of_ble_eq_true rfl) (L := [some (.ref 2)]) rfl ?_
  obtain ⟨h2, h3, h4, h5, h6, h7⟩ := hR
  have hF : FC w w := FC.rf
  refine J_aload_n (pc := 0) dX0_total_0 rfl rfl rfl ?_
  refine J_get (pc := 1) (k := 3) dX0_total_1 kC2 (by decide) ff_X0_21 h2 rfl ?_
  refine J_iconst (pc := 4) (v := nI 0) dX0_total_4 (by decide) ?_
  refine J_ialdF (pc := 5) dX0_total_5 h6 (by decide) (by decide) ?_
  exact J_iret (pc := 6) dX0_total_6 rfl ⟨rfl, rfl⟩
set_option maxRecDepth 100000 in
set_option maxHeartbeats 4000000 in
theorem c_X0_raise_atx {X : jX} (hs : X.1.stackTraces = false) {d : Nat} (hd : 3 ≤ d) {st sv rc sz kw : Nat → Nat} {ns tk ro nn : Nat} {w : List jC} (hR : CM st sv rc sz kw ns tk ro nn w) {cm : Nat → Nat} (h1 : w[1]? = some (aF 6 cm)) (s : Nat) (rw9 : Nat) (n9 : Nat) (hy0 : n9 ≤ 7) (hy1 : Mv n9 rw9) (hy2 : s < 64) (hy3 : ∀ c, c < 6 → Mv n9 (cm c)) {kc ks : Nat} : jMet X mX0_raise d kc ks [.ref 2, .ref 1, .int (nI s), .int (nI rw9), .int (nI n9)] w (pV (fun w' => ∃ (st' : Nat → Nat), ∃ (sv' : Nat → Nat), ∃ (rc' : Nat → Nat), ∃ (sz' : Nat → Nat), ∃ (kw' : Nat → Nat), ∃ (ns' : Nat), ∃ (tk' : Nat), CM st' sv' rc' sz' kw' ns' tk' rw9 n9 w' ∧ FC w w' ∧ (CI n9 rw9 st' sv' rc' kw' ns') ∧ (PQ n9 rc' st' kw' ns') ∧ (∀ x, CP n9 (RC rc') (ST st') n9 x ↔ Gg n9 (gS cm s 6) x) ∧ (∀ l, l ≤ n9 → sz' l = zF rc' n9 (n9 - l)))) := by
  refine jMet_of hs (by decide +kernel) (Nat.le_of_ble_eq_true rfl) (L := [some (.ref 2), some (.ref 1), some (.int (nI s)), some (.int (nI rw9)), some (.int (nI n9)), none, none]) rfl ?_
  have hdm : 2 ≤ d - 1 := by omega
  have hdp : d - 1 + 1 ≤ d := by omega
  obtain ⟨h2, h3, h4, h5, h6, h7⟩ := hR
  have hF : FC w w := FC.rf
  refine J_aload_n (pc := 0) dX0_raise_0 rfl rfl rfl ?_
  refine J_iload (pc := 1) dX0_raise_1 rfl ?_
  refine J_putW (pc := 3) (k := 8) dX0_raise_3 kC2 (by decide) ff_X0_38 (Or.inl rfl) ⟨rfl, rfl⟩ h2 (by show 8 < 9; decide) (fun w1 hln1 hw1 hne1 => ?_)
  have h2_1 : w1[2]? = some (.inr (2, [.ref 3, .ref 4, .ref 5, .ref 6, .ref 7, .int (nI ns), .int (nI tk), .int (nI ro), .int (nI n9)])) := hw1
  have h3_1 := (hne1 3 (by decide)).trans h3
  have h4_1 := (hne1 4 (by decide)).trans h4
  have h5_1 := (hne1 5 (by decide)).trans h5
  have h6_1 := (hne1 6 (by decide)).trans h6
  have h7_1 := (hne1 7 (by decide)).trans h7
  have h1_1 := (hne1 1 (by decide)).trans h1
  have hF1 := hF.st hln1 hne1 (by decide)
  refine J_aload_n (pc := 6) dX0_raise_6 rfl rfl rfl ?_
  refine J_iload_n (pc := 7) dX0_raise_7 rfl rfl ?_
  refine J_putW (pc := 8) (k := 7) dX0_raise_8 kC2 (by decide) ff_X0_35 (Or.inl rfl) ⟨rfl, rfl⟩ h2_1 (by show 7 < 9; decide) (fun w2 hln2 hw2 hne2 => ?_)
  have h2_2 : w2[2]? = some (.inr (2, [.ref 3, .ref 4, .ref 5, .ref 6, .ref 7, .int (nI ns), .int (nI tk), .int (nI rw9), .int (nI n9)])) := hw2
  have h3_2 := (hne2 3 (by decide)).trans h3_1
  have h4_2 := (hne2 4 (by decide)).trans h4_1
  have h5_2 := (hne2 5 (by decide)).trans h5_1
  have h6_2 := (hne2 6 (by decide)).trans h6_1
  have h7_2 := (hne2 7 (by decide)).trans h7_1
  have h1_2 := (hne2 1 (by decide)).trans h1_1
  have hF2 := hF1.st hln2 hne2 (by decide)
  refine J_aload_n (pc := 11) dX0_raise_11 rfl rfl rfl ?_
  refine J_iconst (pc := 12) (v := nI 0) dX0_raise_12 (by decide) ?_
  refine J_putW (pc := 13) (k := 5) dX0_raise_13 kC2 (by decide) ff_X0_27 (Or.inl rfl) ⟨rfl, rfl⟩ h2_2 (by show 5 < 9; decide) (fun w3 hln3 hw3 hne3 => ?_)
  have h2_3 : w3[2]? = some (.inr (2, [.ref 3, .ref 4, .ref 5, .ref 6, .ref 7, .int (nI 0), .int (nI tk), .int (nI rw9), .int (nI n9)])) := hw3
  have h3_3 := (hne3 3 (by decide)).trans h3_2
  have h4_3 := (hne3 4 (by decide)).trans h4_2
  have h5_3 := (hne3 5 (by decide)).trans h5_2
  have h6_3 := (hne3 6 (by decide)).trans h6_2
  have h7_3 := (hne3 7 (by decide)).trans h7_2
  have h1_3 := (hne3 1 (by decide)).trans h1_2
  have hF3 := hF2.st hln3 hne3 (by decide)
  refine J_aload_n (pc := 16) dX0_raise_16 rfl rfl rfl ?_
  refine J_iconst (pc := 17) (v := nI 0) dX0_raise_17 (by decide) ?_
  refine J_putW (pc := 18) (k := 6) dX0_raise_18 kC2 (by decide) ff_X0_31 (Or.inl rfl) ⟨rfl, rfl⟩ h2_3 (by show 6 < 9; decide) (fun w4 hln4 hw4 hne4 => ?_)
  have h2_4 : w4[2]? = some (.inr (2, [.ref 3, .ref 4, .ref 5, .ref 6, .ref 7, .int (nI 0), .int (nI 0), .int (nI rw9), .int (nI n9)])) := hw4
  have h3_4 := (hne4 3 (by decide)).trans h3_3
  have h4_4 := (hne4 4 (by decide)).trans h4_3
  have h5_4 := (hne4 5 (by decide)).trans h5_3
  have h6_4 := (hne4 6 (by decide)).trans h6_3
  have h7_4 := (hne4 7 (by decide)).trans h7_3
  have h1_4 := (hne4 1 (by decide)).trans h1_3
  have hF4 := hF3.st hln4 hne4 (by decide)
  refine J_iconst (pc := 21) (v := nI 0) dX0_raise_21 (by decide) ?_
  refine J_istore (pc := 22) dX0_raise_22 (by decide) rfl ?_
  show J X mX0_raise d kc ks 24 [some (.ref 2), some (.ref 1), some (.int (nI s)), some (.int (nI rw9)), some (.int (nI n9)), some (.int (nI 0)), none] [] w4 _
  have lp24_5 : ∀ (fuel : Nat) (w6 : List jC) (st_24 : Nat → Nat) (rc_24 : Nat → Nat) (c5 : Nat), (CM st_24 sv rc_24 sz kw 0 0 rw9 n9 w6) → (FC w w6) → (∀ l, l < c5 → rc_24 l = 2 ^ d8 rw9 l ∧ st_24 (l * 8 + d8 rw9 l) = 1754760) → (c5 ≤ n9) → (n9 - c5 < fuel) → J X mX0_raise d kc ks 24 [some (.ref 2), some (.ref 1), some (.int (nI s)), some (.int (nI rw9)), some (.int (nI n9)), some (.int (nI c5)), none] [] w6 (pV (fun w' => ∃ (st' : Nat → Nat), ∃ (sv' : Nat → Nat), ∃ (rc' : Nat → Nat), ∃ (sz' : Nat → Nat), ∃ (kw' : Nat → Nat), ∃ (ns' : Nat), ∃ (tk' : Nat), CM st' sv' rc' sz' kw' ns' tk' rw9 n9 w' ∧ FC w w' ∧ (CI n9 rw9 st' sv' rc' kw' ns') ∧ (PQ n9 rc' st' kw' ns') ∧ (∀ x, CP n9 (RC rc') (ST st') n9 x ↔ Gg n9 (gS cm s 6) x) ∧ (∀ l, l ≤ n9 → sz' l = zF rc' n9 (n9 - l)))) := by
    intro fuellp24_5
    induction fuellp24_5 with
    | zero => intros; omega
    | succ fuellp24_5 ihlp24_5 =>
      intro w6 st_24 rc_24 c5 hR7 hF8 hv24_0 hv24_1 hf9
      obtain ⟨h2_10, h3_10, h4_10, h5_10, h6_10, h7_10⟩ := hR7
      have h1_10 := (hF8.2 1 (by decide)).trans h1
      refine J_iload (pc := 24) dX0_raise_24 rfl ?_
      refine J_aload_n (pc := 26) dX0_raise_26 rfl rfl rfl ?_
      refine J_get (pc := 27) (k := 8) dX0_raise_27 kC2 (by decide) ff_X0_38 h2_10 rfl ?_
      refine J_icmp_geN (pc := 30) (tgt := 75) dX0_raise_30 (by decide) (by omega) (by omega) (fun ht11 => ?_) (fun hf12 => ?_)
      · refine J_iconst (pc := 75) (v := nI 0) dX0_raise_75 (by decide) ?_
        refine J_istore (pc := 76) dX0_raise_76 (by decide) rfl ?_
        show J X mX0_raise d kc ks 78 [some (.ref 2), some (.ref 1), some (.int (nI s)), some (.int (nI rw9)), some (.int (nI n9)), some (.int (nI 0)), none] [] w6 _
        have lp78_13 : ∀ (fuel : Nat) (w14 : List jC) (st_78 : Nat → Nat) (sv_78 : Nat → Nat) (rc_78 : Nat → Nat) (kw_78 : Nat → Nat) (ns_78 : Nat) (tk_78 : Nat) (c5 : Nat), (CM st_78 sv_78 rc_78 sz kw_78 ns_78 tk_78 rw9 n9 w14) → (FC w w14) → (CI n9 rw9 st_78 sv_78 rc_78 kw_78 ns_78) → (PQ n9 rc_78 st_78 kw_78 ns_78) → (Al n9 rc_78 st_78 (Gg n9 (gS cm s c5))) → (∀ c, c < c5 → s.testBit c = true → CP n9 (RC rc_78) (ST st_78) n9 (cm c)) → (tk_78 < 2 ^ 6) → (c5 ≤ 6) → (6 - c5 < fuel) → J X mX0_raise d kc ks 78 [some (.ref 2), some (.ref 1), some (.int (nI s)), some (.int (nI rw9)), some (.int (nI n9)), some (.int (nI c5)), none] [] w14 (pV (fun w' => ∃ (st' : Nat → Nat), ∃ (sv' : Nat → Nat), ∃ (rc' : Nat → Nat), ∃ (sz' : Nat → Nat), ∃ (kw' : Nat → Nat), ∃ (ns' : Nat), ∃ (tk' : Nat), CM st' sv' rc' sz' kw' ns' tk' rw9 n9 w' ∧ FC w w' ∧ (CI n9 rw9 st' sv' rc' kw' ns') ∧ (PQ n9 rc' st' kw' ns') ∧ (∀ x, CP n9 (RC rc') (ST st') n9 x ↔ Gg n9 (gS cm s 6) x) ∧ (∀ l, l ≤ n9 → sz' l = zF rc' n9 (n9 - l)))) := by
          intro fuellp78_13
          induction fuellp78_13 with
          | zero => intros; omega
          | succ fuellp78_13 ihlp78_13 =>
            intro w14 st_78 sv_78 rc_78 kw_78 ns_78 tk_78 c5 hR15 hF16 hv78_0 hv78_1 hv78_2 hv78_3 hv78_4 hv78_5 hf17
            obtain ⟨h2_18, h3_18, h4_18, h5_18, h6_18, h7_18⟩ := hR15
            have h1_18 := (hF16.2 1 (by decide)).trans h1
            refine J_iload (pc := 78) dX0_raise_78 rfl ?_
            refine J_aload_n (pc := 80) dX0_raise_80 rfl rfl rfl ?_
            refine J_alen (pc := 81) (n := nI 6) dX0_raise_81 h1_18 (by decide) (by rw [List.length_map, List.length_range]; rfl) ?_
            refine J_icmp_geN (pc := 82) (tgt := 128) dX0_raise_82 (by decide) (by omega) (by omega) (fun ht19 => ?_) (fun hf20 => ?_)
            · refine J_aload_n (pc := 128) dX0_raise_128 rfl rfl rfl ?_
              refine J_callV0 (pc := 129) (M := mX0_raise) (as := []) dX0_raise_129 fw_X0_measure fl_X0_61 fm_X0_measure fe_X0_measure h2_18 (by decide) rfl rfl rfl (c_X0_measure_atx hs (d := d - 1) (Nat.le_trans (by decide) hdm) (w := w14) (st := st_78) (sv := sv_78) (rc := rc_78) (sz := sz) (kw := kw_78) (ns := ns_78) (tk := tk_78) (ro := rw9) (nn := n9) ⟨h2_18, h3_18, h4_18, h5_18, h6_18, h7_18⟩ (by assumption) (by exact hv78_0.2.2.2.2.2.2.2) (kc := 0) (ks := 0)) hdp (st := []) (Nat.le_of_ble_eq_true rfl) rfl (kr_V fun w21 hw21 => ?_) kx_V
              obtain ⟨sz21, hR21, hFc21, hp21_0⟩ := hw21
              obtain ⟨h2_21, h3_21, h4_21, h5_21, h6_21, h7_21⟩ := hR21
              have h1_21 := (hFc21.2 1 (by decide)).trans h1_18
              have hF21 := hF16.tr hFc21
              exact J_vret (pc := 132) dX0_raise_132 rfl (⟨st_78, sv_78, rc_78, sz21, kw_78, ns_78, tk_78, ⟨h2_21, h3_21, h4_21, h5_21, h6_21, h7_21⟩, hF21, (by assumption), (by assumption), (by exact GE_is hy0 (by omega) hv78_0 hv78_1 hv78_2 hv78_3 hy3), (by assumption)⟩)
            · refine J_iload_n (pc := 85) dX0_raise_85 rfl rfl ?_
              refine J_iload (pc := 86) dX0_raise_86 rfl ?_
              refine J_callSN0 (pc := 88) (M := mX0_raise) (as := [.int (nI s), .int (nI c5)]) dX0_raise_88 fw_X6_has fl_X0_48 fs_X6_has rfl (c_X6_has_atx hs (d := d - 1) (Nat.le_trans (by decide) hdm) (w := w14) s c5 (by omega) (by omega) (kc := 0) (ks := 0)) hdp (st := []) (Nat.le_of_ble_eq_true rfl) rfl (kr_P fun v22 hv22 => ?_) kx_I
              rcases hv22 with ⟨rfl, hk22_0⟩ | ⟨rfl, hk22_0⟩
              · refine J_if_eqN (pc := 91) (tgt := 122) dX0_raise_91 (by decide) (by decide) (fun _ => ?_) (fun h => absurd h (by decide))
                refine J_iincN (pc := 122) (b := 1) dX0_raise_122 rfl (by decide) (by decide) rfl ?_
                show J X mX0_raise d kc ks 125 [some (.ref 2), some (.ref 1), some (.int (nI s)), some (.int (nI rw9)), some (.int (nI n9)), some (.int (nI (c5 + 1))), none] [] w14 _
                refine J_goto (pc := 125) (tgt := 78) dX0_raise_125 (by decide) ?_
                exact J_sub (L' := [some (.ref 2), some (.ref 1), some (.int (nI s)), some (.int (nI rw9)), some (.int (nI n9)), some (.int (nI (c5 + 1))), none]) ⟨rfl, ⟨rfl, ⟨rfl, ⟨rfl, ⟨rfl, ⟨rfl, trivial⟩⟩⟩⟩⟩⟩ (ihlp78_13 w14 st_78 sv_78 rc_78 kw_78 ns_78 tk_78 (c5 + 1) ⟨h2_18, h3_18, h4_18, h5_18, h6_18, h7_18⟩ hF16 (by first | exact hc1 | exact hv78_0) (by first | exact hc3 | exact hv78_1) (by first | exact Al_c hy0 (by omega) hy3 hv78_2 (by assumption) had hc4 | exact Al_n hv78_2) (by first | exact CS_c hv78_3 had hc2 | exact CS_p hv78_3 (by assumption) | exact CS_n hv78_3 (by assumption)) (by first | exact Nat.or_lt_two_pow hv78_4 (Nat.pow_lt_pow_right (by decide) (by omega)) | assumption) (by first | assumption | omega) (by omega))
              · refine J_if_eqN (pc := 91) (tgt := 122) dX0_raise_91 (by decide) (by decide) (fun h => absurd h (by decide)) (fun _ => ?_)
                refine J_aload_n (pc := 94) dX0_raise_94 rfl rfl rfl ?_
                refine J_aload_n (pc := 95) dX0_raise_95 rfl rfl rfl ?_
                refine J_iload (pc := 96) dX0_raise_96 rfl ?_
                refine J_ialdF (pc := 98) dX0_raise_98 h1_18 (by omega) (by decide) ?_
                refine J_callV0 (pc := 99) (M := mX0_raise) (as := [.int (nI (cm c5))]) dX0_raise_99 fw_X0_admit fl_X0_54 fm_X0_admit fe_X0_admit h2_18 (by decide) rfl rfl rfl (c_X0_admit_atx hs (d := d - 1) (Nat.le_trans (by decide) hdm) (w := w14) (st := st_78) (sv := sv_78) (rc := rc_78) (sz := sz) (kw := kw_78) (ns := ns_78) (tk := tk_78) (ro := rw9) (nn := n9) ⟨h2_18, h3_18, h4_18, h5_18, h6_18, h7_18⟩ (cm c5) (by exact hy3 c5 (by omega)) (by assumption) (by exact hv78_0) (kc := 0) (ks := 0)) hdp (st := []) (Nat.le_of_ble_eq_true rfl) rfl (kr_I fun v23 w23 hv23 hw23 => ?_) kx_I
                obtain ⟨st23, sv23, rc23, kw23, ns23, hR23, hFc23, hp23_0, hp23_1⟩ := hw23
                obtain ⟨h2_23, h3_23, h4_23, h5_23, h6_23, h7_23⟩ := hR23
                have h1_23 := (hFc23.2 1 (by decide)).trans h1_18
                have hF23 := hF16.tr hFc23
                have had := hp23_0
                have hsame := hp23_1
                rcases hv23 with ⟨rfl, hk23_0⟩ | ⟨rfl, hk23_0⟩
                · obtain ⟨rfl, rfl, rfl, rfl, rfl⟩ := hsame hk23_0
                  refine J_if_eqN (pc := 102) (tgt := 122) dX0_raise_102 (by decide) (by decide) (fun _ => ?_) (fun h => absurd h (by decide))
                  refine J_iincN (pc := 122) (b := 1) dX0_raise_122 rfl (by decide) (by decide) rfl ?_
                  show J X mX0_raise d kc ks 125 [some (.ref 2), some (.ref 1), some (.int (nI s)), some (.int (nI rw9)), some (.int (nI n9)), some (.int (nI (c5 + 1))), none] [] w23 _
                  refine J_goto (pc := 125) (tgt := 78) dX0_raise_125 (by decide) ?_
                  exact J_sub (L' := [some (.ref 2), some (.ref 1), some (.int (nI s)), some (.int (nI rw9)), some (.int (nI n9)), some (.int (nI (c5 + 1))), none]) ⟨rfl, ⟨rfl, ⟨rfl, ⟨rfl, ⟨rfl, ⟨rfl, trivial⟩⟩⟩⟩⟩⟩ (ihlp78_13 w23 st23 sv23 rc23 kw23 ns23 tk_78 (c5 + 1) ⟨h2_23, h3_23, h4_23, h5_23, h6_23, h7_23⟩ hF23 (by first | exact hc1 | exact hv78_0) (by first | exact hc3 | exact hv78_1) (by first | exact Al_c hy0 (by omega) hy3 hv78_2 (by assumption) had hc4 | exact Al_n hv78_2) (by first | exact CS_c hv78_3 had hc2 | exact CS_p hv78_3 (by assumption) | exact CS_n hv78_3 (by assumption)) (by first | exact Nat.or_lt_two_pow hv78_4 (Nat.pow_lt_pow_right (by decide) (by omega)) | assumption) (by first | assumption | omega) (by omega))
                · refine J_if_eqN (pc := 102) (tgt := 122) dX0_raise_102 (by decide) (by decide) (fun h => absurd h (by decide)) (fun _ => ?_)
                  refine J_aload_n (pc := 105) dX0_raise_105 rfl rfl rfl ?_
                  refine J_dup (pc := 106) dX0_raise_106 rfl ?_
                  refine J_get (pc := 107) (k := 6) dX0_raise_107 kC2 (by decide) ff_X0_31 h2_23 rfl ?_
                  refine J_iconst (pc := 110) (v := nI 1) dX0_raise_110 (by decide) ?_
                  refine J_iload (pc := 111) dX0_raise_111 rfl ?_
                  refine J_shlOne (pc := 113) dX0_raise_113 (by omega) ?_
                  refine J_iorN (pc := 114) dX0_raise_114 (by have := hv78_4; omega) (by exact Nat.pow_lt_pow_right (by decide) (by omega)) ?_
                  refine J_putW (pc := 115) (k := 6) dX0_raise_115 kC2 (by decide) ff_X0_31 (Or.inl rfl) ⟨rfl, rfl⟩ h2_23 (by show 6 < 9; decide) (fun w24 hln24 hw24 hne24 => ?_)
                  have h2_24 : w24[2]? = some (.inr (2, [.ref 3, .ref 4, .ref 5, .ref 6, .ref 7, .int (nI ns23), .int (nI (tk_78 ||| (2 ^ c5))), .int (nI rw9), .int (nI n9)])) := hw24
                  have h3_24 := (hne24 3 (by decide)).trans h3_23
                  have h4_24 := (hne24 4 (by decide)).trans h4_23
                  have h5_24 := (hne24 5 (by decide)).trans h5_23
                  have h6_24 := (hne24 6 (by decide)).trans h6_23
                  have h7_24 := (hne24 7 (by decide)).trans h7_23
                  have h1_24 := (hne24 1 (by decide)).trans h1_23
                  have hF24 := hF23.st hln24 hne24 (by decide)
                  refine J_aload_n (pc := 118) dX0_raise_118 rfl rfl rfl ?_
                  refine J_callV0 (pc := 119) (M := mX0_raise) (as := []) dX0_raise_119 fw_X0_close fl_X0_58 fm_X0_close fe_X0_close h2_24 (by decide) rfl rfl rfl (c_X0_close_atx hs (d := d - 1) (Nat.le_trans (by decide) hdm) (w := w24) (st := st23) (sv := sv23) (rc := rc23) (sz := sz) (kw := kw23) (ns := ns23) (tk := tk_78 ||| (2 ^ c5)) (ro := rw9) (nn := n9) ⟨h2_24, h3_24, h4_24, h5_24, h6_24, h7_24⟩ (by assumption) (by exact had.1) (kc := 0) (ks := 0)) hdp (st := []) (Nat.le_of_ble_eq_true rfl) rfl (kr_V fun w25 hw25 => ?_) kx_V
                  obtain ⟨st25, sv25, rc25, kw25, ns25, hR25, hFc25, hp25_0, hp25_1, hp25_2, hp25_3⟩ := hw25
                  obtain ⟨h2_25, h3_25, h4_25, h5_25, h6_25, h7_25⟩ := hR25
                  have h1_25 := (hFc25.2 1 (by decide)).trans h1_24
                  have hF25 := hF24.tr hFc25
                  have hc1 := hp25_0
                  have hc2 := hp25_1
                  have hc3 := hp25_2
                  have hc4 := hp25_3
                  refine J_iincN (pc := 122) (b := 1) dX0_raise_122 rfl (by decide) (by decide) rfl ?_
                  show J X mX0_raise d kc ks 125 [some (.ref 2), some (.ref 1), some (.int (nI s)), some (.int (nI rw9)), some (.int (nI n9)), some (.int (nI (c5 + 1))), none] [] w25 _
                  refine J_goto (pc := 125) (tgt := 78) dX0_raise_125 (by decide) ?_
                  exact J_sub (L' := [some (.ref 2), some (.ref 1), some (.int (nI s)), some (.int (nI rw9)), some (.int (nI n9)), some (.int (nI (c5 + 1))), none]) ⟨rfl, ⟨rfl, ⟨rfl, ⟨rfl, ⟨rfl, ⟨rfl, trivial⟩⟩⟩⟩⟩⟩ (ihlp78_13 w25 st25 sv25 rc25 kw25 ns25 (tk_78 ||| (2 ^ c5)) (c5 + 1) ⟨h2_25, h3_25, h4_25, h5_25, h6_25, h7_25⟩ hF25 (by first | exact hc1 | exact hv78_0) (by first | exact hc3 | exact hv78_1) (by first | exact Al_c hy0 (by omega) hy3 hv78_2 (by assumption) had hc4 | exact Al_n hv78_2) (by first | exact CS_c hv78_3 had hc2 | exact CS_p hv78_3 (by assumption) | exact CS_n hv78_3 (by assumption)) (by first | exact Nat.or_lt_two_pow hv78_4 (Nat.pow_lt_pow_right (by decide) (by omega)) | assumption) (by first | assumption | omega) (by omega))
        exact J_sub (L' := [some (.ref 2), some (.ref 1), some (.int (nI s)), some (.int (nI rw9)), some (.int (nI n9)), some (.int (nI 0)), none]) ⟨rfl, ⟨rfl, ⟨rfl, ⟨rfl, ⟨rfl, ⟨rfl, trivial⟩⟩⟩⟩⟩⟩ (lp78_13 _ w6 st_24 sv rc_24 kw 0 0 0 ⟨h2_10, h3_10, h4_10, h5_10, h6_10, h7_10⟩ hF8 (by exact CI_0 hy0 hy1 (fun l hl => hv24_0 l (by omega))) (by exact fun i j hi => absurd hi (Nat.not_lt_zero i)) (by exact Al_0 hy0 hy1 (fun l hl => hv24_0 l (by omega))) (by exact fun c hc => absurd hc (Nat.not_lt_zero c)) (by decide) (by first | assumption | omega) (Nat.lt_succ_self _))
      · refine J_aload_n (pc := 33) dX0_raise_33 rfl rfl rfl ?_
        refine J_get (pc := 34) (k := 7) dX0_raise_34 kC2 (by decide) ff_X0_35 h2_10 rfl ?_
        refine J_iload (pc := 37) dX0_raise_37 rfl ?_
        refine J_callS0 (pc := 39) (M := mX0_raise) (as := [.int (nI rw9), .int (nI c5)]) dX0_raise_39 fw_X2_goal fl_X0_41 fs_X2_goal rfl (c_X2_goal_atx hs (d := d - 1) (Nat.le_trans (by decide) hdm) (w := w6) rw9 c5 (by exact hy1.1) (by omega) (kc := 0) (ks := 0)) hdp (st := []) (Nat.le_of_ble_eq_true rfl) rfl (kr_P fun v26 hv26 => ?_) kx_I
        subst hv26
        have hq27 := d8_lt rw9 c5
        have hg6 := hy1.2.1.1 c5 (by omega)
        refine J_istore (pc := 42) dX0_raise_42 (by decide) rfl ?_
        show J X mX0_raise d kc ks 44 [some (.ref 2), some (.ref 1), some (.int (nI s)), some (.int (nI rw9)), some (.int (nI n9)), some (.int (nI c5)), some (.int (nI (d8 rw9 c5)))] [] w6 _
        refine J_aload_n (pc := 44) dX0_raise_44 rfl rfl rfl ?_
        refine J_get (pc := 45) (k := 2) dX0_raise_45 kC2 (by decide) ff_X0_18 h2_10 rfl ?_
        refine J_iload (pc := 48) dX0_raise_48 rfl ?_
        refine J_iconst (pc := 50) (v := nI 1) dX0_raise_50 (by decide) ?_
        refine J_iload (pc := 51) dX0_raise_51 rfl ?_
        refine J_shlOne (pc := 53) dX0_raise_53 (by omega) ?_
        refine J_iastF (pc := 54) dX0_raise_54 h5_10 (by omega) (by decide) (fun w28 hln28 hc28 hne28 => ?_)
        have h2_28 := (hne28 2 (by decide)).trans h2_10
        have h3_28 := (hne28 3 (by decide)).trans h3_10
        have h4_28 := (hne28 4 (by decide)).trans h4_10
        have h6_28 := (hne28 6 (by decide)).trans h6_10
        have h7_28 := (hne28 7 (by decide)).trans h7_10
        have h1_28 := (hne28 1 (by decide)).trans h1_10
        have hF28 := hF8.st hln28 hne28 (by decide)
        refine J_aload_n (pc := 55) dX0_raise_55 rfl rfl rfl ?_
        refine J_get (pc := 56) (k := 0) dX0_raise_56 kC2 (by decide) ff_X0_9 h2_28 rfl ?_
        refine J_iload (pc := 59) dX0_raise_59 rfl ?_
        refine J_iload (pc := 61) dX0_raise_61 rfl ?_
        refine J_callS0 (pc := 63) (M := mX0_raise) (as := [.int (nI c5), .int (nI (d8 rw9 c5))]) dX0_raise_63 fw_X0_place fl_X0_45 fs_X0_place rfl (c_X0_place_atx hs (d := d - 1) (Nat.le_trans (by decide) hdm) (w := w28) c5 (d8 rw9 c5) (kc := 0) (ks := 0)) hdp (st := [.ref 3]) (Nat.le_of_ble_eq_true rfl) rfl (kr_P fun v29 hv29 => ?_) kx_I
        subst hv29
        refine J_ldc (pc := 66) (v := nI 1754760) dX0_raise_66 (by have := fk_X0_34; exact this) ?_
        refine J_iastF (pc := 68) dX0_raise_68 h3_28 (by omega) (by decide) (fun w30 hln30 hc30 hne30 => ?_)
        have h2_30 := (hne30 2 (by decide)).trans h2_28
        have h4_30 := (hne30 4 (by decide)).trans h4_28
        have h5_30 := (hne30 5 (by decide)).trans hc28
        have h6_30 := (hne30 6 (by decide)).trans h6_28
        have h7_30 := (hne30 7 (by decide)).trans h7_28
        have h1_30 := (hne30 1 (by decide)).trans h1_28
        have hF30 := hF28.st hln30 hne30 (by decide)
        refine J_iincN (pc := 69) (b := 1) dX0_raise_69 rfl (by decide) (by decide) rfl ?_
        show J X mX0_raise d kc ks 72 [some (.ref 2), some (.ref 1), some (.int (nI s)), some (.int (nI rw9)), some (.int (nI n9)), some (.int (nI (c5 + 1))), some (.int (nI (d8 rw9 c5)))] [] w30 _
        refine J_goto (pc := 72) (tgt := 24) dX0_raise_72 (by decide) ?_
        exact J_sub (L' := [some (.ref 2), some (.ref 1), some (.int (nI s)), some (.int (nI rw9)), some (.int (nI n9)), some (.int (nI (c5 + 1))), none]) ⟨rfl, ⟨rfl, ⟨rfl, ⟨rfl, ⟨rfl, ⟨rfl, trivial⟩⟩⟩⟩⟩⟩ (ihlp24_5 w30 (up st_24 (c5 * 8 + (d8 rw9 c5)) 1754760) (up rc_24 c5 (2 ^ (d8 rw9 c5))) (c5 + 1) ⟨h2_30, hc30, h4_30, h5_30, h6_30, h7_30⟩ hF30 (by exact RS_s (by omega) (by omega) hy1 hv24_0) (by first | assumption | omega) (by omega))
  exact J_sub (L' := [some (.ref 2), some (.ref 1), some (.int (nI s)), some (.int (nI rw9)), some (.int (nI n9)), some (.int (nI 0)), none]) ⟨rfl, ⟨rfl, ⟨rfl, ⟨rfl, ⟨rfl, ⟨rfl, trivial⟩⟩⟩⟩⟩⟩ (lp24_5 _ w4 st rc 0 ⟨h2_4, h3_4, h4_4, h5_4, h6_4, h7_4⟩ hF4 (by exact fun l hl => absurd hl (Nat.not_lt_zero l)) (by first | assumption | omega) (Nat.lt_succ_self _))
set_option maxRecDepth 100000 in
set_option maxHeartbeats 4000000 in
theorem c_X0_moveAt_atx {X : jX} (hs : X.1.stackTraces = false) {d : Nat} (hd : 3 ≤ d) {st sv rc sz kw : Nat → Nat} {ns tk ro nn : Nat} {w : List jC} (hR : CM st sv rc sz kw ns tk ro nn w) (rk : Nat) (la : Nat) (hy0 : 1 ≤ nn) (hy1 : nn ≤ 7) (hy2 : CI nn ro st sv rc kw ns) (hy3 : PQ nn rc st kw ns) (hy4 : ∀ l, l ≤ nn → sz l = zF rc nn (nn - l)) (hy5 : Mv nn la) (hy6 : rk < zF rc nn nn) {kc ks : Nat} : jMet X mX0_moveAt d kc ks [.ref 2, .int (nI rk), .int (nI la)] w (pI (fun v => ∃ y : Nat, v = nI y ∧ Mv nn y ∧ GK nn (TL nn rc st la) (d8 ro) rk y) (fun w' => w' = w)) := by
  refine jMet_of hs (by decide +kernel) (Nat.le_of_ble_eq_true rfl) (L := [some (.ref 2), some (.int (nI rk)), some (.int (nI la)), none, none, none, none, none, none]) rfl ?_
  have hdm : 2 ≤ d - 1 := by omega
  have hdp : d - 1 + 1 ≤ d := by omega
  obtain ⟨h2, h3, h4, h5, h6, h7⟩ := hR
  have hF : FC w w := FC.rf
  refine J_iload_n (pc := 0) dX0_moveAt_0 rfl rfl ?_
  refine J_istore_n (pc := 1) dX0_moveAt_1 rfl (by decide) rfl ?_
  show J X mX0_moveAt d kc ks 2 [some (.ref 2), some (.int (nI rk)), some (.int (nI la)), some (.int (nI rk)), none, none, none, none, none] [] w _
  refine J_iload_n (pc := 2) dX0_moveAt_2 rfl rfl ?_
  refine J_istore (pc := 3) dX0_moveAt_3 (by decide) rfl ?_
  show J X mX0_moveAt d kc ks 5 [some (.ref 2), some (.int (nI rk)), some (.int (nI la)), some (.int (nI rk)), some (.int (nI la)), none, none, none, none] [] w _
  refine J_iconst (pc := 5) (v := nI 0) dX0_moveAt_5 (by decide) ?_
  refine J_istore (pc := 6) dX0_moveAt_6 (by decide) rfl ?_
  show J X mX0_moveAt d kc ks 8 [some (.ref 2), some (.int (nI rk)), some (.int (nI la)), some (.int (nI rk)), some (.int (nI la)), some (.int (nI 0)), none, none, none] [] w _
  have lp8_1 : ∀ (fuel : Nat) (y3 : Nat) (y4 : Nat) (c5 : Nat), (MI nn ro rc st la rk c5 y3 y4) → (c5 ≤ nn) → (nn - c5 < fuel) → J X mX0_moveAt d kc ks 8 [some (.ref 2), some (.int (nI rk)), some (.int (nI la)), some (.int (nI y3)), some (.int (nI y4)), some (.int (nI c5)), none, none, none] [] w (pI (fun v => ∃ y : Nat, v = nI y ∧ Mv nn y ∧ GK nn (TL nn rc st la) (d8 ro) rk y) (fun w' => w' = w)) := by
    intro fuellp8_1
    induction fuellp8_1 with
    | zero => intros; omega
    | succ fuellp8_1 ihlp8_1 =>
      intro y3 y4 c5 hv8_0 hv8_1 hf2
      refine J_iload (pc := 8) dX0_moveAt_8 rfl ?_
      refine J_aload_n (pc := 10) dX0_moveAt_10 rfl rfl rfl ?_
      refine J_get (pc := 11) (k := 8) dX0_moveAt_11 kC2 (by decide) ff_X0_38 h2 rfl ?_
      refine J_icmp_geN (pc := 14) (tgt := 100) dX0_moveAt_14 (by decide) (by omega) (by omega) (fun ht3 => ?_) (fun hf4 => ?_)
      · refine J_iload (pc := 100) dX0_moveAt_100 rfl ?_
        exact J_iret (pc := 102) dX0_moveAt_102 rfl ⟨⟨y4, rfl, by exact MI_n (by omega) hv8_0⟩, rfl⟩
      · have h5040 := zF_5040 hy0 hy1 hy2 (show nn - c5 ≤ nn by omega)
        have h5041 := zF_5040 hy0 hy1 hy2 (show nn - (c5 + 1) ≤ nn by omega)
        have hz1 := zF_pos hy0 hy1 hy2 (nn - (c5 + 1)) (by omega)
        have hsz := hy4 (c5 + 1) (by omega)
        have hrl := hv8_0.2.2.1
        have h31 := hy2.2.2.2.2.2.2.2 c5 (by omega)
        refine J_iload (pc := 17) dX0_moveAt_17 rfl ?_
        refine J_aload_n (pc := 19) dX0_moveAt_19 rfl rfl rfl ?_
        refine J_get (pc := 20) (k := 2) dX0_moveAt_20 kC2 (by decide) ff_X0_18 h2 rfl ?_
        refine J_iload (pc := 23) dX0_moveAt_23 rfl ?_
        refine J_ialdF (pc := 25) dX0_moveAt_25 h5 (by omega) (by decide) ?_
        refine J_callS0 (pc := 26) (M := mX0_moveAt) (as := [.int (nI y4), .int (nI (rc c5))]) dX0_moveAt_26 fw_X2_goals fl_X0_71 fs_X2_goals rfl (c_X2_goals_atx hs (d := d - 1) (Nat.le_trans (by decide) hdm) (w := w) y4 (rc c5) (by exact hv8_0.1.1) (by exact h31) (kc := 0) (ks := 0)) hdp (st := []) (Nat.le_of_ble_eq_true rfl) rfl (kr_P fun v5 hv5 => ?_) kx_I
        obtain ⟨k5, rfl, hk5⟩ := hv5
        obtain ⟨hr1, hr2⟩ := hk5
        refine J_istore (pc := 29) dX0_moveAt_29 (by decide) rfl ?_
        show J X mX0_moveAt d kc ks 31 [some (.ref 2), some (.int (nI rk)), some (.int (nI la)), some (.int (nI y3)), some (.int (nI y4)), some (.int (nI c5)), some (.int (nI k5)), none, none] [] w _
        refine J_iload_n (pc := 31) dX0_moveAt_31 rfl rfl ?_
        refine J_aload_n (pc := 32) dX0_moveAt_32 rfl rfl rfl ?_
        refine J_get (pc := 33) (k := 3) dX0_moveAt_33 kC2 (by decide) ff_X0_21 h2 rfl ?_
        refine J_iload (pc := 36) dX0_moveAt_36 rfl ?_
        refine J_iconst (pc := 38) (v := nI 1) dX0_moveAt_38 (by decide) ?_
        refine J_iaddN (pc := 39) dX0_moveAt_39 ?_
        refine J_ialdF (pc := 40) dX0_moveAt_40 h6 (by omega) (by decide) ?_
        refine J_callSN0 (pc := 41) (M := mX0_moveAt) (as := [.int (nI y3), .int (nI (sz (c5 + 1)))]) dX0_moveAt_41 fw_X6_quotient fl_X0_83 fs_X6_quotient rfl (c_X6_quotient_atx hs (d := d - 1) (Nat.le_trans (by decide) hdm) (w := w) y3 (sz (c5 + 1)) (by omega) (by omega) (by omega) (kc := 0) (ks := 0)) hdp (st := []) (Nat.le_of_ble_eq_true rfl) rfl (kr_P fun v6 hv6 => ?_) kx_I
        subst hv6
        refine J_istore (pc := 44) dX0_moveAt_44 (by decide) rfl ?_
        show J X mX0_moveAt d kc ks 46 [some (.ref 2), some (.int (nI rk)), some (.int (nI la)), some (.int (nI y3)), some (.int (nI y4)), some (.int (nI c5)), some (.int (nI k5)), some (.int (nI (y3 / (sz (c5 + 1))))), none] [] w _
        refine J_iload_n (pc := 46) dX0_moveAt_46 rfl rfl ?_
        refine J_iload (pc := 47) dX0_moveAt_47 rfl ?_
        refine J_aload_n (pc := 49) dX0_moveAt_49 rfl rfl rfl ?_
        refine J_get (pc := 50) (k := 3) dX0_moveAt_50 kC2 (by decide) ff_X0_21 h2 rfl ?_
        refine J_iload (pc := 53) dX0_moveAt_53 rfl ?_
        refine J_iconst (pc := 55) (v := nI 1) dX0_moveAt_55 (by decide) ?_
        refine J_iaddN (pc := 56) dX0_moveAt_56 ?_
        refine J_ialdF (pc := 57) dX0_moveAt_57 h6 (by omega) (by decide) ?_
        refine J_imulN (pc := 58) dX0_moveAt_58 ?_
        refine J_isubN (pc := 59) dX0_moveAt_59 (by exact Nat.div_mul_le_self _ _) ?_
        refine J_istore_n (pc := 60) dX0_moveAt_60 rfl (by decide) rfl ?_
        show J X mX0_moveAt d kc ks 61 [some (.ref 2), some (.int (nI rk)), some (.int (nI la)), some (.int (nI (y3 - ((y3 / (sz (c5 + 1))) * (sz (c5 + 1)))))), some (.int (nI y4)), some (.int (nI c5)), some (.int (nI k5)), some (.int (nI (y3 / (sz (c5 + 1))))), none] [] w _
        refine J_iload (pc := 61) dX0_moveAt_61 rfl ?_
        refine J_iload (pc := 63) dX0_moveAt_63 rfl ?_
        refine J_iload (pc := 65) dX0_moveAt_65 rfl ?_
        refine J_callS0 (pc := 67) (M := mX0_moveAt) (as := [.int (nI k5), .int (nI (y3 / (sz (c5 + 1))))]) dX0_moveAt_67 fw_X2_bitAt fl_X0_86 fs_X2_bitAt rfl (c_X2_bitAt_atx hs (d := d - 1) (Nat.le_trans (by decide) hdm) (w := w) k5 (y3 / (sz (c5 + 1))) (by omega) (by rw [hsz]; exact MI_idx hy0 hy1 hy2 (by omega) hv8_0 hr2) (kc := 0) (ks := 0)) hdp (st := [.int (nI y4)]) (Nat.le_of_ble_eq_true rfl) rfl (kr_P fun v7 hv7 => ?_) kx_I
        obtain ⟨k7, rfl, hk7⟩ := hv7
        obtain ⟨hb1, hb2, hb3⟩ := hk7
        refine J_callS0 (pc := 70) (M := mX0_moveAt) (as := [.int (nI y4), .int (nI k7)]) dX0_moveAt_70 fw_X2_source fl_X0_77 fs_X2_source rfl (c_X2_source_atx hs (d := d - 1) (Nat.le_trans (by decide) hdm) (w := w) y4 k7 (by exact hv8_0.1.1) (by exact MI_src hr2 hb2) (kc := 0) (ks := 0)) hdp (st := []) (Nat.le_of_ble_eq_true rfl) rfl (kr_P fun v8 hv8 => ?_) kx_I
        obtain ⟨k8, rfl, hk8⟩ := hv8
        obtain ⟨hq1, hq2⟩ := hk8
        refine J_istore (pc := 73) dX0_moveAt_73 (by decide) rfl ?_
        show J X mX0_moveAt d kc ks 75 [some (.ref 2), some (.int (nI rk)), some (.int (nI la)), some (.int (nI (y3 - ((y3 / (sz (c5 + 1))) * (sz (c5 + 1)))))), some (.int (nI y4)), some (.int (nI c5)), some (.int (nI k5)), some (.int (nI (y3 / (sz (c5 + 1))))), some (.int (nI k8))] [] w _
        refine J_aload_n (pc := 75) dX0_moveAt_75 rfl rfl rfl ?_
        refine J_get (pc := 76) (k := 0) dX0_moveAt_76 kC2 (by decide) ff_X0_9 h2 rfl ?_
        refine J_iload (pc := 79) dX0_moveAt_79 rfl ?_
        refine J_iload (pc := 81) dX0_moveAt_81 rfl ?_
        refine J_callS0 (pc := 83) (M := mX0_moveAt) (as := [.int (nI c5), .int (nI k8)]) dX0_moveAt_83 fw_X0_place fl_X0_45 fs_X0_place rfl (c_X0_place_atx hs (d := d - 1) (Nat.le_trans (by decide) hdm) (w := w) c5 k8 (kc := 0) (ks := 0)) hdp (st := [.ref 3]) (Nat.le_of_ble_eq_true rfl) rfl (kr_P fun v9 hv9 => ?_) kx_I
        subst hv9
        refine J_ialdF (pc := 86) dX0_moveAt_86 h3 (by omega) (by decide) ?_
        refine J_iload (pc := 87) dX0_moveAt_87 rfl ?_
        refine J_callS0 (pc := 89) (M := mX0_moveAt) (as := [.int (nI (st (c5 * 8 + k8))), .int (nI y4)]) dX0_moveAt_89 fw_X2_both fl_X0_80 fs_X2_both rfl (c_X2_both_atx hs (d := d - 1) (Nat.le_trans (by decide) hdm) (w := w) (st (c5 * 8 + k8)) y4 (by exact MI_st hy1 hy2 (by omega) hv8_0 hr2 hb2 hq1 hq2) (by exact hv8_0.1.1) (kc := 0) (ks := 0)) hdp (st := []) (Nat.le_of_ble_eq_true rfl) rfl (kr_P fun v10 hv10 => ?_) kx_I
        subst hv10
        refine J_istore (pc := 92) dX0_moveAt_92 (by decide) rfl ?_
        show J X mX0_moveAt d kc ks 94 [some (.ref 2), some (.int (nI rk)), some (.int (nI la)), some (.int (nI (y3 - ((y3 / (sz (c5 + 1))) * (sz (c5 + 1)))))), some (.int (nI (c7 (st (c5 * 8 + k8)) y4))), some (.int (nI c5)), some (.int (nI k5)), some (.int (nI (y3 / (sz (c5 + 1))))), some (.int (nI k8))] [] w _
        refine J_iincN (pc := 94) (b := 1) dX0_moveAt_94 rfl (by decide) (by decide) rfl ?_
        show J X mX0_moveAt d kc ks 97 [some (.ref 2), some (.int (nI rk)), some (.int (nI la)), some (.int (nI (y3 - ((y3 / (sz (c5 + 1))) * (sz (c5 + 1)))))), some (.int (nI (c7 (st (c5 * 8 + k8)) y4))), some (.int (nI (c5 + 1))), some (.int (nI k5)), some (.int (nI (y3 / (sz (c5 + 1))))), some (.int (nI k8))] [] w _
        refine J_goto (pc := 97) (tgt := 8) dX0_moveAt_97 (by decide) ?_
        exact J_sub (L' := [some (.ref 2), some (.int (nI rk)), some (.int (nI la)), some (.int (nI (y3 - ((y3 / (sz (c5 + 1))) * (sz (c5 + 1)))))), some (.int (nI (c7 (st (c5 * 8 + k8)) y4))), some (.int (nI (c5 + 1))), none, none, none]) ⟨rfl, ⟨rfl, ⟨rfl, ⟨rfl, ⟨rfl, ⟨rfl, trivial⟩⟩⟩⟩⟩⟩ (ihlp8_1 (y3 - ((y3 / (sz (c5 + 1))) * (sz (c5 + 1)))) (c7 (st (c5 * 8 + k8)) y4) (c5 + 1) (by rw [hsz]; exact MI_s hy0 hy1 hy2 hy3 hy5 (by omega) hv8_0 hr2 hb2 (by rw [← hsz]; exact hb3) hq1 hq2) (by first | assumption | omega) (by omega))
  exact J_sub (L' := [some (.ref 2), some (.int (nI rk)), some (.int (nI la)), some (.int (nI rk)), some (.int (nI la)), some (.int (nI 0)), none, none, none]) ⟨rfl, ⟨rfl, ⟨rfl, ⟨rfl, ⟨rfl, ⟨rfl, trivial⟩⟩⟩⟩⟩⟩ (lp8_1 _ rk la 0 (by exact MI_0 hy1 hy2 hy5 hy6) (by first | assumption | omega) (Nat.lt_succ_self _))
