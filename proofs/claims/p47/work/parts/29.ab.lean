section
/-! the house's questions over all its cells -/
theorem pw31c {k N : Nat} (h : 2 ^ k ≤ N) (hN : N ≤ 5040) : k < 31 ∧ 2 ^ k < 2 ^ 31 := by
  refine ⟨Nat.lt_of_not_le (fun q => ?_), by omega⟩
  have := Nat.pow_le_pow_right (show 1 ≤ 2 by decide) q
  omega
theorem RKV_g {G : Prop} {r : Nat} {v : Int32} (h : RKV G r v) (hG : G) : v = nI r := by
  rcases h with h | h
  · exact h.2.1
  · exact absurd hG h.1
set_option maxRecDepth 100000 in
set_option maxHeartbeats 4000000 in
theorem c_X6_raiseAll_atu {X : jX} (hs : X.1.stackTraces = false) {d : Nat} (hd : 5 ≤ d) {st : Nat → Nat} {sv : Nat → Nat} {rc : Nat → Nat} {sz : Nat → Nat} {kw : Nat → Nat} {ns : Nat} {tk : Nat} {ro : Nat} {nn : Nat} {ml : List Int32} {tg : Nat → Nat} {mn : Nat} {wn : Nat} {po : Nat → Nat} {tn : Nat} {ql : List Int32} {qt : Nat → Nat} {pw : Nat → Nat} {qm : Nat} {pc : Nat} {qn : Nat} {n : Nat} {e r q : Int32} {cm : Nat → Nat} {w : List jC} (hH : HX n e r q cm w) (hn1 : 2 ≤ n) (hn2 : n ≤ 7) (hcm : ∀ c, c < 6 → Mv n (cm c)) (hR : CM st sv rc sz kw ns tk ro nn w) (hRw : WM ml tg mn wn w) (hRt : TM po tn w) (hRq : QM ql qt pw qm pc qn w) (hUB : UB ns nn mn wn tn pc qn qm) {kc ks : Nat} : jMet X mX6_raiseAll d kc ks [.ref 0] w (pV (fun w' => ∃ (st' : Nat → Nat), ∃ (sv' : Nat → Nat), ∃ (rc' : Nat → Nat), ∃ (sz' : Nat → Nat), ∃ (kw' : Nat → Nat), ∃ (ns' : Nat), ∃ (tk' : Nat), ∃ (ml' : List Int32), ∃ (tg' : Nat → Nat), ∃ (mn' : Nat), HX n e r q cm w' ∧ F19 w w' ∧ CM st' sv' rc' sz' kw' ns' tk' (cm 0) n w' ∧ WM ml' tg' mn' n w' ∧ TM po tn w' ∧ QM ql qt pw qm pc qn w' ∧ UB ns' n mn' n tn pc qn qm ∧ (CI n (cm 0) st' sv' rc' kw' ns') ∧ (PQ n rc' st' kw' ns') ∧ (∀ x, CP n (RC rc') (ST st') n x ↔ (Gg n (gS cm 63 6)) x) ∧ (∀ l, l ≤ n → sz' l = zF rc' n (n - l)) ∧ (tk' = enF n cm 63 6) ∧ (FI n ml' tg' mn') ∧ (WX n cm 63 ml'))) := by
  refine jMet_of hs (by decide +kernel) (Nat.le_of_ble_eq_true rfl) (L := [some (.ref 0)]) rfl ?_
  obtain ⟨h0, h1⟩ := hH
  obtain ⟨h2, h3, h4, h5, h6, h7⟩ := hR
  obtain ⟨h8, h9, h10, h11, hz11⟩ := hRw
  obtain ⟨h12, h13⟩ := hRt
  obtain ⟨h14, h15, h16, h17, h18, hz17⟩ := hRq
  obtain ⟨hu1, hu2, hu3, hu4, hu5, ⟨hu6, hu7⟩, hu8, hu9⟩ := hUB
  have hG : F19 w w := F19.rf
  refine J_aload_n (pc := 0) dX6_raiseAll_0 rfl rfl rfl ?_
  refine J_get (pc := 1) (k := 1) dX6_raiseAll_1 kC7 (by decide) ff_X6_16 h0 rfl ?_
  refine J_aload_n (pc := 4) dX6_raiseAll_4 rfl rfl rfl ?_
  refine J_get (pc := 5) (k := 0) dX6_raiseAll_5 kC7 (by decide) ff_X6_9 h0 rfl ?_
  refine J_bipush (pc := 8) (v := nI 63) dX6_raiseAll_8 (by decide) ?_
  refine J_aload_n (pc := 10) dX6_raiseAll_10 rfl rfl rfl ?_
  refine J_get (pc := 11) (k := 0) dX6_raiseAll_11 kC7 (by decide) ff_X6_9 h0 rfl ?_
  refine J_iconst (pc := 14) (v := nI 0) dX6_raiseAll_14 (by decide) ?_
  refine J_ialdF (pc := 15) dX6_raiseAll_15 h1 (by decide) (by decide) ?_
  refine J_aload_n (pc := 16) dX6_raiseAll_16 rfl rfl rfl ?_
  refine J_get (pc := 17) (k := 5) dX6_raiseAll_17 kC7 (by decide) ff_X6_41 h0 rfl ?_
  refine J_callV0 (pc := 20) (M := mX6_raiseAll) (as := [.ref 1, .int (nI 63), .int (nI (cm 0)), .int (nI n)]) dX6_raiseAll_20 fw_X0_raise fl_X6_134 fm_X0_raise fe_X0_raise h2 (by decide) rfl rfl rfl (c_X0_raise_atx hs (d := d - 1) (by omega) (st := st) (sv := sv) (rc := rc) (sz := sz) (kw := kw) (ns := ns) (tk := tk) (ro := ro) (nn := nn) ⟨h2, h3, h4, h5, h6, h7⟩ h1 (w := w) 63 (cm 0) n (by exact hn2) (by exact hcm 0 (by decide)) (by decide) (by exact hcm) (kc := 0) (ks := 0)) (by omega) (st := []) (Nat.le_of_ble_eq_true rfl) rfl (kr_V fun w1 hw1 => ?_) kx_V
  obtain ⟨st1, sv1, rc1, sz1, kw1, ns1, tk1, hR1, hFc1, hp1_0, hp1_1, hp1_2, hp1_3, hp1_4⟩ := hw1
  have h0_1 := (hFc1.2 0 (by decide)).trans h0
  have h1_1 := (hFc1.2 1 (by decide)).trans h1
  have h8_1 := (hFc1.2 8 (by decide)).trans h8
  have h9_1 := (hFc1.2 9 (by decide)).trans h9
  have h10_1 := (hFc1.2 10 (by decide)).trans h10
  have h11_1 := (hFc1.2 11 (by decide)).trans h11
  have h12_1 := (hFc1.2 12 (by decide)).trans h12
  have h13_1 := (hFc1.2 13 (by decide)).trans h13
  have h14_1 := (hFc1.2 14 (by decide)).trans h14
  have h15_1 := (hFc1.2 15 (by decide)).trans h15
  have h16_1 := (hFc1.2 16 (by decide)).trans h16
  have h17_1 := (hFc1.2 17 (by decide)).trans h17
  have h18_1 := (hFc1.2 18 (by decide)).trans h18
  obtain ⟨h2_1, h3_1, h4_1, h5_1, h6_1, h7_1⟩ := hR1
  have hG1 := hG.trC hFc1
  have hci := hp1_0
  have hpq := hp1_1
  have hge := hp1_2
  have hsz := hp1_3
  have htk := hp1_4
  refine J_aload_n (pc := 23) dX6_raiseAll_23 rfl rfl rfl ?_
  refine J_get (pc := 24) (k := 2) dX6_raiseAll_24 kC7 (by decide) ff_X6_23 h0_1 rfl ?_
  refine J_aload_n (pc := 27) dX6_raiseAll_27 rfl rfl rfl ?_
  refine J_get (pc := 28) (k := 0) dX6_raiseAll_28 kC7 (by decide) ff_X6_9 h0_1 rfl ?_
  refine J_bipush (pc := 31) (v := nI 63) dX6_raiseAll_31 (by decide) ?_
  refine J_aload_n (pc := 33) dX6_raiseAll_33 rfl rfl rfl ?_
  refine J_get (pc := 34) (k := 5) dX6_raiseAll_34 kC7 (by decide) ff_X6_41 h0_1 rfl ?_
  refine J_callV0 (pc := 37) (M := mX6_raiseAll) (as := [.ref 1, .int (nI 63), .int (nI n)]) dX6_raiseAll_37 fw_X5_goThrough fl_X6_177 fm_X5_goThrough fe_X5_goThrough h8_1 (by decide) rfl rfl rfl (c_X5_goThrough_atx hs (d := d - 1) (by omega) (ml := ml) (tg := tg) (mn := mn) (wn := wn) ⟨h8_1, h9_1, h10_1, h11_1, hz11⟩ h1_1 (w := w1) 63 n (by exact hn1) (by exact hn2) (by exact hcm) (by decide) (kc := 0) (ks := 0)) (by omega) (st := []) (Nat.le_of_ble_eq_true rfl) rfl (kr_V fun w2 hw2 => ?_) kx_V
  obtain ⟨ml2, tg2, mn2, hR2, hFc2, hp2_0, hp2_1⟩ := hw2
  have h0_2 := (hFc2.2 0 (by decide)).trans h0_1
  have h1_2 := (hFc2.2 1 (by decide)).trans h1_1
  have h2_2 := (hFc2.2 2 (by decide)).trans h2_1
  have h3_2 := (hFc2.2 3 (by decide)).trans h3_1
  have h4_2 := (hFc2.2 4 (by decide)).trans h4_1
  have h5_2 := (hFc2.2 5 (by decide)).trans h5_1
  have h6_2 := (hFc2.2 6 (by decide)).trans h6_1
  have h7_2 := (hFc2.2 7 (by decide)).trans h7_1
  have h12_2 := (hFc2.2 12 (by decide)).trans h12_1
  have h13_2 := (hFc2.2 13 (by decide)).trans h13_1
  have h14_2 := (hFc2.2 14 (by decide)).trans h14_1
  have h15_2 := (hFc2.2 15 (by decide)).trans h15_1
  have h16_2 := (hFc2.2 16 (by decide)).trans h16_1
  have h17_2 := (hFc2.2 17 (by decide)).trans h17_1
  have h18_2 := (hFc2.2 18 (by decide)).trans h18_1
  obtain ⟨h8_2, h9_2, h10_2, h11_2, hz11_2⟩ := hR2
  have hG2 := hG1.trB hFc2 (by decide)
  have hfi := hp2_0
  have hwx := hp2_1
  have hbd := Nat.le_trans (FI_le hfi) (fc_7 hn2)
  exact J_vret (pc := 40) dX6_raiseAll_40 rfl (⟨st1, sv1, rc1, sz1, kw1, ns1, tk1, ml2, tg2, mn2, ⟨h0_2, h1_2⟩, hG2, ⟨h2_2, h3_2, h4_2, h5_2, h6_2, h7_2⟩, ⟨h8_2, h9_2, h10_2, h11_2, hz11_2⟩, ⟨h12_2, h13_2⟩, ⟨h14_2, h15_2, h16_2, h17_2, h18_2, hz17⟩, ⟨(by first | omega | exact CI_ns21 hn2 hci), (by first | omega | exact hbd), (by first | omega | exact hbd), (by first | omega | exact hbd), (by first | omega | exact hbd), ⟨by omega, by omega⟩, (by first | omega | exact hbd), (by first | omega | exact hbd)⟩, (by assumption), (by assumption), (by assumption), (by assumption), (by exact htk), (by assumption), (by assumption)⟩)
set_option maxRecDepth 100000 in
set_option maxHeartbeats 4000000 in
theorem c_X6_sizesAgree_atu {X : jX} (hs : X.1.stackTraces = false) {d : Nat} (hd : 2 ≤ d) {st : Nat → Nat} {sv : Nat → Nat} {rc : Nat → Nat} {sz : Nat → Nat} {kw : Nat → Nat} {ns : Nat} {tk : Nat} {ml : List Int32} {tg : Nat → Nat} {mn : Nat} {po : Nat → Nat} {tn : Nat} {ql : List Int32} {qt : Nat → Nat} {pw : Nat → Nat} {qm : Nat} {pc : Nat} {qn : Nat} {n : Nat} {e r q : Int32} {cm : Nat → Nat} {w : List jC} (hH : HX n e r q cm w) (hn1 : 2 ≤ n) (hn2 : n ≤ 7) (hcm : ∀ c, c < 6 → Mv n (cm c)) (hR : CM st sv rc sz kw ns tk (cm 0) n w) (hRw : WM ml tg mn n w) (hRt : TM po tn w) (hRq : QM ql qt pw qm pc qn w) (hUB : UB ns n mn n tn pc qn qm) (hy0 : CI n (cm 0) st sv rc kw ns) (hy1 : PQ n rc st kw ns) (hy2 : ∀ x, CP n (RC rc) (ST st) n x ↔ (Gg n (gS cm 63 6)) x) (hy3 : ∀ l, l ≤ n → sz l = zF rc n (n - l)) (hy4 : tk = enF n cm 63 6) (hy5 : FI n ml tg mn) (hy6 : WX n cm 63 ml) {kc ks : Nat} : jMet X mX6_sizesAgree d kc ks [.ref 0] w (pI (fun v => v = nI 1) (fun w' => w' = w)) := by
  refine jMet_of hs (by decide +kernel) (Nat.le_of_ble_eq_true rfl) (L := [some (.ref 0)]) rfl ?_
  obtain ⟨h0, h1⟩ := hH
  obtain ⟨h2, h3, h4, h5, h6, h7⟩ := hR
  obtain ⟨h8, h9, h10, h11, hz11⟩ := hRw
  obtain ⟨h12, h13⟩ := hRt
  obtain ⟨h14, h15, h16, h17, h18, hz17⟩ := hRq
  obtain ⟨hu1, hu2, hu3, hu4, hu5, ⟨hu6, hu7⟩, hu8, hu9⟩ := hUB
  have hG : F19 w w := F19.rf
  have hci := hy0
  have hpq := hy1
  have hge := hy2
  have hsz := hy3
  have hfi := hy5
  have hwx := hy6
  have hbd := Nat.le_trans (FI_le hfi) (fc_7 hn2)
  have hs0 := hsz 0 (by omega)
  rw [Nat.sub_zero] at hs0
  have hcd := nth_cd (by omega) hn2 hci hge hs0
  have hmn := FI_cd hwx hfi
  have hCl := Gg_Cl hn2 (gS_M (s := 63) (Nat.le_refl 6) hcm)
  have hN1 : 1 ≤ cd n (Gg n (gS cm 63 6)) := cd_pos (by omega) hn2 (eM_Mv hn2) Gg_e
  have hN5 := cd_5040 hn2 (Gg n (gS cm 63 6))
  have hfd := Nat.mod_eq_zero_of_dvd (cd_fc (by omega) hn2 hCl)
  have hf7 := fc_7 hn2
  have hf1 := fc_pos n
  refine J_aload_n (pc := 0) dX6_sizesAgree_0 rfl rfl rfl ?_
  refine J_get (pc := 1) (k := 1) dX6_sizesAgree_1 kC7 (by decide) ff_X6_16 h0 rfl ?_
  refine J_callV0 (pc := 4) (M := mX6_sizesAgree) (as := []) dX6_sizesAgree_4 fw_X0_total fl_X6_138 fm_X0_total fe_X0_total h2 (by decide) rfl rfl rfl (c_X0_total_atx hs (d := d - 1) (by omega) (st := st) (sv := sv) (rc := rc) (sz := sz) (kw := kw) (ns := ns) (tk := tk) (ro := cm 0) (nn := n) ⟨h2, h3, h4, h5, h6, h7⟩ (w := w)  (kc := 0) (ks := 0)) (by omega) (st := []) (Nat.le_of_ble_eq_true rfl) rfl (kr_P fun v1 hv1 => ?_) kx_I
  subst hv1
  refine J_aload_n (pc := 7) dX6_sizesAgree_7 rfl rfl rfl ?_
  refine J_get (pc := 8) (k := 2) dX6_sizesAgree_8 kC7 (by decide) ff_X6_23 h0 rfl ?_
  refine J_callV0 (pc := 11) (M := mX6_sizesAgree) (as := []) dX6_sizesAgree_11 fw_X5_length fl_X6_283 fm_X5_length fe_X5_length h8 (by decide) rfl rfl rfl (c_X5_length_atx hs (d := d - 1) (by omega) (ml := ml) (tg := tg) (mn := mn) (wn := n) ⟨h8, h9, h10, h11, hz11⟩ (w := w)  (kc := 0) (ks := 0)) (by omega) (st := [.int (nI (sz 0))]) (Nat.le_of_ble_eq_true rfl) rfl (kr_P fun v2 hv2 => ?_) kx_I
  subst hv2
  refine J_icmp_neN (pc := 14) (tgt := 41) dX6_sizesAgree_14 (by decide) (by omega) (by omega) (fun ht3 => ?_) (fun hf4 => ?_)
  · exact absurd (hcd.trans hmn.symm) ht3
  · refine J_aload_n (pc := 17) dX6_sizesAgree_17 rfl rfl rfl ?_
    refine J_get (pc := 18) (k := 1) dX6_sizesAgree_18 kC7 (by decide) ff_X6_16 h0 rfl ?_
    refine J_callV0 (pc := 21) (M := mX6_sizesAgree) (as := []) dX6_sizesAgree_21 fw_X0_total fl_X6_138 fm_X0_total fe_X0_total h2 (by decide) rfl rfl rfl (c_X0_total_atx hs (d := d - 1) (by omega) (st := st) (sv := sv) (rc := rc) (sz := sz) (kw := kw) (ns := ns) (tk := tk) (ro := cm 0) (nn := n) ⟨h2, h3, h4, h5, h6, h7⟩ (w := w)  (kc := 0) (ks := 0)) (by omega) (st := []) (Nat.le_of_ble_eq_true rfl) rfl (kr_P fun v5 hv5 => ?_) kx_I
    subst hv5
    refine J_aload_n (pc := 24) dX6_sizesAgree_24 rfl rfl rfl ?_
    refine J_get (pc := 25) (k := 5) dX6_sizesAgree_25 kC7 (by decide) ff_X6_41 h0 rfl ?_
    refine J_callS0 (pc := 28) (M := mX6_sizesAgree) (as := [.int (nI n)]) dX6_sizesAgree_28 fw_X2_factorial fl_X6_71 fs_X2_factorial rfl (c_X2_factorial_atx hs (d := d - 1) (by omega) (w := w) n (by omega) (kc := 0) (ks := 0)) (by omega) (st := [.int (nI (sz 0))]) (Nat.le_of_ble_eq_true rfl) rfl (kr_P fun v6 hv6 => ?_) kx_I
    subst hv6
    refine J_callS0 (pc := 31) (M := mX6_sizesAgree) (as := [.int (nI (sz 0)), .int (nI (fc n))]) dX6_sizesAgree_31 fw_X6_divides fl_X6_284 fs_X6_divides rfl (c_X6_divides_atx hs (d := d - 1) (by omega) (w := w) (sz 0) (fc n) (by omega) (by omega) (by omega) (by rw [hcd]; exact hfd) (kc := 0) (ks := 0)) (by omega) (st := []) (Nat.le_of_ble_eq_true rfl) rfl (kr_P fun v7 hv7 => ?_) kx_I
    subst hv7
    refine J_if_eqN (pc := 34) (tgt := 41) dX6_sizesAgree_34 (by decide) (by decide) (fun h => absurd h (by decide)) (fun _ => ?_)
    refine J_iconst (pc := 37) (v := nI 1) dX6_sizesAgree_37 (by decide) ?_
    refine J_goto (pc := 38) (tgt := 42) dX6_sizesAgree_38 (by decide) ?_
    exact J_zret (pc := 42) dX6_sizesAgree_42 rfl (nar_b (by first | decide | omega)) ⟨rfl, rfl⟩
set_option maxRecDepth 100000 in
set_option maxHeartbeats 4000000 in
theorem c_X6_ranksAgree_atu {X : jX} (hs : X.1.stackTraces = false) {d : Nat} (hd : 4 ≤ d) {st : Nat → Nat} {sv : Nat → Nat} {rc : Nat → Nat} {sz : Nat → Nat} {kw : Nat → Nat} {ns : Nat} {tk : Nat} {ml : List Int32} {tg : Nat → Nat} {mn : Nat} {po : Nat → Nat} {tn : Nat} {ql : List Int32} {qt : Nat → Nat} {pw : Nat → Nat} {qm : Nat} {pc : Nat} {qn : Nat} {n : Nat} {e r q : Int32} {cm : Nat → Nat} {w : List jC} (hH : HX n e r q cm w) (hn1 : 2 ≤ n) (hn2 : n ≤ 7) (hcm : ∀ c, c < 6 → Mv n (cm c)) (hR : CM st sv rc sz kw ns tk (cm 0) n w) (hRw : WM ml tg mn n w) (hRt : TM po tn w) (hRq : QM ql qt pw qm pc qn w) (hUB : UB ns n mn n tn pc qn qm) (hy0 : CI n (cm 0) st sv rc kw ns) (hy1 : PQ n rc st kw ns) (hy2 : ∀ x, CP n (RC rc) (ST st) n x ↔ (Gg n (gS cm 63 6)) x) (hy3 : ∀ l, l ≤ n → sz l = zF rc n (n - l)) (hy4 : tk = enF n cm 63 6) (hy5 : FI n ml tg mn) (hy6 : WX n cm 63 ml) {kc ks : Nat} : jMet X mX6_ranksAgree d kc ks [.ref 0] w (pI (fun v => v = nI 1) (fun w' => w' = w)) := by
  refine jMet_of hs (by decide +kernel) (Nat.le_of_ble_eq_true rfl) (L := [some (.ref 0), none, none, none]) rfl ?_
  obtain ⟨h0, h1⟩ := hH
  obtain ⟨h2, h3, h4, h5, h6, h7⟩ := hR
  obtain ⟨h8, h9, h10, h11, hz11⟩ := hRw
  obtain ⟨h12, h13⟩ := hRt
  obtain ⟨h14, h15, h16, h17, h18, hz17⟩ := hRq
  obtain ⟨hu1, hu2, hu3, hu4, hu5, ⟨hu6, hu7⟩, hu8, hu9⟩ := hUB
  have hG : F19 w w := F19.rf
  have hci := hy0
  have hpq := hy1
  have hge := hy2
  have hsz := hy3
  have hfi := hy5
  have hwx := hy6
  have hbd := Nat.le_trans (FI_le hfi) (fc_7 hn2)
  have hs0 := hsz 0 (by omega)
  rw [Nat.sub_zero] at hs0
  have hcd := nth_cd (by omega) hn2 hci hge hs0
  have hmn := FI_cd hwx hfi
  have hCl := Gg_Cl hn2 (gS_M (s := 63) (Nat.le_refl 6) hcm)
  have hN1 : 1 ≤ cd n (Gg n (gS cm 63 6)) := cd_pos (by omega) hn2 (eM_Mv hn2) Gg_e
  have hN5 := cd_5040 hn2 (Gg n (gS cm 63 6))
  refine J_aload_n (pc := 0) dX6_ranksAgree_0 rfl rfl rfl ?_
  refine J_get (pc := 1) (k := 1) dX6_ranksAgree_1 kC7 (by decide) ff_X6_16 h0 rfl ?_
  refine J_callV0 (pc := 4) (M := mX6_ranksAgree) (as := []) dX6_ranksAgree_4 fw_X0_total fl_X6_138 fm_X0_total fe_X0_total h2 (by decide) rfl rfl rfl (c_X0_total_atx hs (d := d - 1) (by omega) (st := st) (sv := sv) (rc := rc) (sz := sz) (kw := kw) (ns := ns) (tk := tk) (ro := cm 0) (nn := n) ⟨h2, h3, h4, h5, h6, h7⟩ (w := w)  (kc := 0) (ks := 0)) (by omega) (st := []) (Nat.le_of_ble_eq_true rfl) rfl (kr_P fun v1 hv1 => ?_) kx_I
  subst hv1
  refine J_istore_n (pc := 7) dX6_ranksAgree_7 rfl (by decide) rfl ?_
  show J X mX6_ranksAgree d kc ks 8 [some (.ref 0), some (.int (nI (sz 0))), none, none] [] w _
  refine J_iconst (pc := 8) (v := nI 0) dX6_ranksAgree_8 (by decide) ?_
  refine J_istore_n (pc := 9) dX6_ranksAgree_9 rfl (by decide) rfl ?_
  show J X mX6_ranksAgree d kc ks 10 [some (.ref 0), some (.int (nI (sz 0))), some (.int (nI 0)), none] [] w _
  have lp10_2 : ∀ (fuel : Nat) (c2 : Nat), (c2 ≤ sz 0) → (sz 0 - c2 < fuel) → J X mX6_ranksAgree d kc ks 10 [some (.ref 0), some (.int (nI (sz 0))), some (.int (nI c2)), none] [] w (pI (fun v => v = nI 1) (fun w' => w' = w)) := by
    intro fuellp10_2
    induction fuellp10_2 with
    | zero => intros; omega
    | succ fuellp10_2 ihlp10_2 =>
      intro c2 hv10_0 hf3
      refine J_iload_n (pc := 10) dX6_ranksAgree_10 rfl rfl ?_
      refine J_iload_n (pc := 11) dX6_ranksAgree_11 rfl rfl ?_
      refine J_icmp_geN (pc := 12) (tgt := 57) dX6_ranksAgree_12 (by decide) (by omega) (by omega) (fun ht4 => ?_) (fun hf5 => ?_)
      · refine J_iconst (pc := 57) (v := nI 1) dX6_ranksAgree_57 (by decide) ?_
        exact J_zret (pc := 58) dX6_ranksAgree_58 rfl (nar_b (by first | decide | omega)) ⟨rfl, rfl⟩
      · refine J_aload_n (pc := 15) dX6_ranksAgree_15 rfl rfl rfl ?_
        refine J_get (pc := 16) (k := 1) dX6_ranksAgree_16 kC7 (by decide) ff_X6_16 h0 rfl ?_
        refine J_iload_n (pc := 19) dX6_ranksAgree_19 rfl rfl ?_
        refine J_ldc (pc := 20) (v := nI 1754760) dX6_ranksAgree_20 (by have := fk_X6_56; exact this) ?_
        refine J_callV0 (pc := 22) (M := mX6_ranksAgree) (as := [.int (nI c2), .int (nI 1754760)]) dX6_ranksAgree_22 fw_X0_moveAt fl_X6_141 fm_X0_moveAt fe_X0_moveAt h2 (by decide) rfl rfl rfl (c_X0_moveAt_atx hs (d := d - 1) (by omega) (st := st) (sv := sv) (rc := rc) (sz := sz) (kw := kw) (ns := ns) (tk := tk) (ro := cm 0) (nn := n) ⟨h2, h3, h4, h5, h6, h7⟩ (w := w) c2 1754760 (by omega) (by exact hn2) (by exact hci) (by exact hpq) (by exact hsz) (by exact e_Mv hn2) (by rw [← hs0]; omega) (kc := 0) (ks := 0)) (by omega) (st := []) (Nat.le_of_ble_eq_true rfl) rfl (kr_P fun v6 hv6 => ?_) kx_I
        obtain ⟨k6, rfl, hk6⟩ := hv6
        have hmv := hk6
        have hyg : (Gg n (gS cm 63 6)) k6 := (hge _).mp ((TL_e hn2 hmv.1).mp (GK_in (by omega) hn2 (hcm 0 (by decide)).2.1 hmv.1 hmv.2))
        have hrk := GK_rk (by omega) hn2 (hcm 0 (by decide)).2.1 hmv.1 hmv.2
        have hod := order_d (by omega) hn2 hCl hmv.1 hyg
        refine J_istore_n (pc := 25) dX6_ranksAgree_25 rfl (by decide) rfl ?_
        show J X mX6_ranksAgree d kc ks 26 [some (.ref 0), some (.int (nI (sz 0))), some (.int (nI c2)), some (.int (nI k6))] [] w _
        refine J_aload_n (pc := 26) dX6_ranksAgree_26 rfl rfl rfl ?_
        refine J_get (pc := 27) (k := 1) dX6_ranksAgree_27 kC7 (by decide) ff_X6_16 h0 rfl ?_
        refine J_iload_n (pc := 30) dX6_ranksAgree_30 rfl rfl ?_
        refine J_callV0 (pc := 31) (M := mX6_ranksAgree) (as := [.int (nI k6)]) dX6_ranksAgree_31 fw_X0_rankOf fl_X6_184 fm_X0_rankOf fe_X0_rankOf h2 (by decide) rfl rfl rfl (c_X0_rankOf_atx hs (d := d - 1) (by omega) (st := st) (sv := sv) (rc := rc) (sz := sz) (kw := kw) (ns := ns) (tk := tk) (ro := cm 0) (nn := n) ⟨h2, h3, h4, h5, h6, h7⟩ (w := w) k6 (by omega) (by exact hn2) (by exact hci) (by exact hpq) (by exact hsz) (by exact hmv.1) (kc := 0) (ks := 0)) (by omega) (st := []) (Nat.le_of_ble_eq_true rfl) rfl (kr_P fun v7 hv7 => ?_) kx_I
        have hve := RKV_g hv7 ((hge _).mpr hyg)
        rw [hrk] at hve
        refine J_iload_n (pc := 34) dX6_ranksAgree_34 rfl rfl ?_
        refine J_icmp_ne (pc := 35) (tgt := 49) dX6_ranksAgree_35 (by decide) (fun ht8 => ?_) (fun hf9 => ?_)
        · exact absurd hve ht8
        · refine J_iload_n (pc := 38) dX6_ranksAgree_38 rfl rfl ?_
          refine J_callS0 (pc := 39) (M := mX6_ranksAgree) (as := [.int (nI k6)]) dX6_ranksAgree_39 fw_X2_orderOf fl_X6_164 fs_X2_orderOf rfl (c_X2_orderOf_atx hs (d := d - 1) (by omega) (w := w) k6 (by exact hmv.1.1) (kc := 0) (ks := 0)) (by omega) (st := []) (Nat.le_of_ble_eq_true rfl) rfl (kr_P fun v10 hv10 => ?_) kx_I
          obtain ⟨k10, rfl, hk10⟩ := hv10
          obtain ⟨hk1, hk2, hk3⟩ := hk10
          refine J_iload_n (pc := 42) dX6_ranksAgree_42 rfl rfl ?_
          refine J_callS0 (pc := 43) (M := mX6_ranksAgree) (as := [.int (nI k10), .int (nI (sz 0))]) dX6_ranksAgree_43 fw_X6_divides fl_X6_284 fs_X6_divides rfl (c_X6_divides_atx hs (d := d - 1) (by omega) (w := w) k10 (sz 0) (by omega) (by omega) (by omega) (by rw [hcd, hk1]; exact Nat.mod_eq_zero_of_dvd hod) (kc := 0) (ks := 0)) (by omega) (st := []) (Nat.le_of_ble_eq_true rfl) rfl (kr_P fun v11 hv11 => ?_) kx_I
          subst hv11
          refine J_if_neN (pc := 46) (tgt := 51) dX6_ranksAgree_46 (by decide) (by decide) (fun _ => ?_) (fun h => absurd h (by decide))
          refine J_iincN (pc := 51) (b := 1) dX6_ranksAgree_51 rfl (by decide) (by decide) rfl ?_
          show J X mX6_ranksAgree d kc ks 54 [some (.ref 0), some (.int (nI (sz 0))), some (.int (nI (c2 + 1))), some (.int (nI k6))] [] w _
          refine J_goto (pc := 54) (tgt := 10) dX6_ranksAgree_54 (by decide) ?_
          exact J_sub (L' := [some (.ref 0), some (.int (nI (sz 0))), some (.int (nI (c2 + 1))), none]) ⟨rfl, ⟨rfl, ⟨rfl, trivial⟩⟩⟩ (ihlp10_2 (c2 + 1) (by first | assumption | omega) (by omega))
  exact J_sub (L' := [some (.ref 0), some (.int (nI (sz 0))), some (.int (nI 0)), none]) ⟨rfl, ⟨rfl, ⟨rfl, trivial⟩⟩⟩ (lp10_2 _ 0 (by first | assumption | omega) (Nat.lt_succ_self _))
set_option maxRecDepth 100000 in
set_option maxHeartbeats 4000000 in
theorem c_X6_signsAgree_atu {X : jX} (hs : X.1.stackTraces = false) {d : Nat} (hd : 5 ≤ d) {st : Nat → Nat} {sv : Nat → Nat} {rc : Nat → Nat} {sz : Nat → Nat} {kw : Nat → Nat} {ns : Nat} {tk : Nat} {ml : List Int32} {tg : Nat → Nat} {mn : Nat} {po : Nat → Nat} {tn : Nat} {ql : List Int32} {qt : Nat → Nat} {pw : Nat → Nat} {qm : Nat} {pc : Nat} {qn : Nat} {n : Nat} {e r q : Int32} {cm : Nat → Nat} {w : List jC} (hH : HX n e r q cm w) (hn1 : 2 ≤ n) (hn2 : n ≤ 7) (hcm : ∀ c, c < 6 → Mv n (cm c)) (hR : CM st sv rc sz kw ns tk (cm 0) n w) (hRw : WM ml tg mn n w) (hRt : TM po tn w) (hRq : QM ql qt pw qm pc qn w) (hUB : UB ns n mn n tn pc qn qm) (hy0 : CI n (cm 0) st sv rc kw ns) (hy1 : PQ n rc st kw ns) (hy2 : ∀ x, CP n (RC rc) (ST st) n x ↔ (Gg n (gS cm 63 6)) x) (hy3 : ∀ l, l ≤ n → sz l = zF rc n (n - l)) (hy4 : tk = enF n cm 63 6) (hy5 : FI n ml tg mn) (hy6 : WX n cm 63 ml) {kc ks : Nat} : jMet X mX6_signsAgree d kc ks [.ref 0] w (pI (fun v => v = nI 1) (fun w' => w' = w)) := by
  refine jMet_of hs (by decide +kernel) (Nat.le_of_ble_eq_true rfl) (L := [some (.ref 0), none]) rfl ?_
  obtain ⟨h0, h1⟩ := hH
  obtain ⟨h2, h3, h4, h5, h6, h7⟩ := hR
  obtain ⟨h8, h9, h10, h11, hz11⟩ := hRw
  obtain ⟨h12, h13⟩ := hRt
  obtain ⟨h14, h15, h16, h17, h18, hz17⟩ := hRq
  obtain ⟨hu1, hu2, hu3, hu4, hu5, ⟨hu6, hu7⟩, hu8, hu9⟩ := hUB
  have hG : F19 w w := F19.rf
  have hci := hy0
  have hpq := hy1
  have hge := hy2
  have hsz := hy3
  have hfi := hy5
  have hwx := hy6
  have hbd := Nat.le_trans (FI_le hfi) (fc_7 hn2)
  have hs0 := hsz 0 (by omega)
  rw [Nat.sub_zero] at hs0
  have hcd := nth_cd (by omega) hn2 hci hge hs0
  have hmn := FI_cd hwx hfi
  have hCl := Gg_Cl hn2 (gS_M (s := 63) (Nat.le_refl 6) hcm)
  have hN1 : 1 ≤ cd n (Gg n (gS cm 63 6)) := cd_pos (by omega) hn2 (eM_Mv hn2) Gg_e
  have hN5 := cd_5040 hn2 (Gg n (gS cm 63 6))
  have hev := even_d (by omega) hn2 hCl
  have hev2 := cd_5040 hn2 (fun x => (Gg n (gS cm 63 6)) x ∧ sg n x = nI 1)
  have hee := FI_ev (by omega) hn2 hwx hfi
  rw [← hee, ← hmn] at hev
  rw [← hee] at hev2
  refine J_aload_n (pc := 0) dX6_signsAgree_0 rfl rfl rfl ?_
  refine J_get (pc := 1) (k := 2) dX6_signsAgree_1 kC7 (by decide) ff_X6_23 h0 rfl ?_
  refine J_callV0 (pc := 4) (M := mX6_signsAgree) (as := []) dX6_signsAgree_4 fw_X5_howManyEven fl_X6_199 fm_X5_howManyEven fe_X5_howManyEven h8 (by decide) rfl rfl rfl (c_X5_howManyEven_atx hs (d := d - 1) (by omega) (ml := ml) (tg := tg) (mn := mn) (wn := n) ⟨h8, h9, h10, h11, hz11⟩ (w := w) (by exact hbd) (by exact fun i hi => (hfi.1 i hi).1) (by exact hn2) (kc := 0) (ks := 0)) (by omega) (st := []) (Nat.le_of_ble_eq_true rfl) rfl (kr_P fun v1 hv1 => ?_) kx_I
  subst hv1
  refine J_istore_n (pc := 7) dX6_signsAgree_7 rfl (by decide) rfl ?_
  show J X mX6_signsAgree d kc ks 8 [some (.ref 0), some (.int (nI (sm (fun i => if sgC (tg i) n = nI 1 then 1 else 0) mn)))] [] w _
  refine J_iload_n (pc := 8) dX6_signsAgree_8 rfl rfl ?_
  refine J_aload_n (pc := 9) dX6_signsAgree_9 rfl rfl rfl ?_
  refine J_get (pc := 10) (k := 2) dX6_signsAgree_10 kC7 (by decide) ff_X6_23 h0 rfl ?_
  refine J_callV0 (pc := 13) (M := mX6_signsAgree) (as := []) dX6_signsAgree_13 fw_X5_length fl_X6_283 fm_X5_length fe_X5_length h8 (by decide) rfl rfl rfl (c_X5_length_atx hs (d := d - 1) (by omega) (ml := ml) (tg := tg) (mn := mn) (wn := n) ⟨h8, h9, h10, h11, hz11⟩ (w := w)  (kc := 0) (ks := 0)) (by omega) (st := [.int (nI (sm (fun i => if sgC (tg i) n = nI 1 then 1 else 0) mn))]) (Nat.le_of_ble_eq_true rfl) rfl (kr_P fun v2 hv2 => ?_) kx_I
  subst hv2
  refine J_icmp_eqN (pc := 16) (tgt := 32) dX6_signsAgree_16 (by decide) (by omega) (by omega) (fun ht3 => ?_) (fun hf4 => ?_)
  · refine J_iconst (pc := 32) (v := nI 1) dX6_signsAgree_32 (by decide) ?_
    refine J_goto (pc := 33) (tgt := 37) dX6_signsAgree_33 (by decide) ?_
    exact J_zret (pc := 37) dX6_signsAgree_37 rfl (nar_b (by first | decide | omega)) ⟨rfl, rfl⟩
  · refine J_iconst (pc := 19) (v := nI 2) dX6_signsAgree_19 (by decide) ?_
    refine J_iload_n (pc := 20) dX6_signsAgree_20 rfl rfl ?_
    refine J_imulN (pc := 21) dX6_signsAgree_21 ?_
    refine J_aload_n (pc := 22) dX6_signsAgree_22 rfl rfl rfl ?_
    refine J_get (pc := 23) (k := 2) dX6_signsAgree_23 kC7 (by decide) ff_X6_23 h0 rfl ?_
    refine J_callV0 (pc := 26) (M := mX6_signsAgree) (as := []) dX6_signsAgree_26 fw_X5_length fl_X6_283 fm_X5_length fe_X5_length h8 (by decide) rfl rfl rfl (c_X5_length_atx hs (d := d - 1) (by omega) (ml := ml) (tg := tg) (mn := mn) (wn := n) ⟨h8, h9, h10, h11, hz11⟩ (w := w)  (kc := 0) (ks := 0)) (by omega) (st := [.int (nI (2 * (sm (fun i => if sgC (tg i) n = nI 1 then 1 else 0) mn)))]) (Nat.le_of_ble_eq_true rfl) rfl (kr_P fun v5 hv5 => ?_) kx_I
    subst hv5
    refine J_icmp_neN (pc := 29) (tgt := 36) dX6_signsAgree_29 (by decide) (by omega) (by omega) (fun ht6 => ?_) (fun hf7 => ?_)
    · exact absurd (hev.resolve_left (by assumption)) ht6
    · refine J_iconst (pc := 32) (v := nI 1) dX6_signsAgree_32 (by decide) ?_
      refine J_goto (pc := 33) (tgt := 37) dX6_signsAgree_33 (by decide) ?_
      exact J_zret (pc := 37) dX6_signsAgree_37 rfl (nar_b (by first | decide | omega)) ⟨rfl, rfl⟩
set_option maxRecDepth 100000 in
set_option maxHeartbeats 4000000 in
theorem c_X6_colouringsAgree_atu {X : jX} (hs : X.1.stackTraces = false) {d : Nat} (hd : 4 ≤ d) {st : Nat → Nat} {sv : Nat → Nat} {rc : Nat → Nat} {sz : Nat → Nat} {kw : Nat → Nat} {ns : Nat} {tk : Nat} {ml : List Int32} {tg : Nat → Nat} {mn : Nat} {po : Nat → Nat} {tn : Nat} {ql : List Int32} {qt : Nat → Nat} {pw : Nat → Nat} {qm : Nat} {pc : Nat} {qn : Nat} {n : Nat} {e r q : Int32} {cm : Nat → Nat} {w : List jC} (hH : HX n e r q cm w) (hn1 : 2 ≤ n) (hn2 : n ≤ 7) (hcm : ∀ c, c < 6 → Mv n (cm c)) (hR : CM st sv rc sz kw ns tk (cm 0) n w) (hRw : WM ml tg mn n w) (hRt : TM po tn w) (hRq : QM ql qt pw qm pc qn w) (hUB : UB ns n mn n tn pc qn qm) (hy0 : CI n (cm 0) st sv rc kw ns) (hy1 : PQ n rc st kw ns) (hy2 : ∀ x, CP n (RC rc) (ST st) n x ↔ (Gg n (gS cm 63 6)) x) (hy3 : ∀ l, l ≤ n → sz l = zF rc n (n - l)) (hy4 : tk = enF n cm 63 6) (hy5 : FI n ml tg mn) (hy6 : WX n cm 63 ml) {kc ks : Nat} : jMet X mX6_colouringsAgree d kc ks [.ref 0] w (pI (fun v => v = nI 1) (fun w' => ∃ (ql' : List Int32), ∃ (qt' : Nat → Nat), ∃ (pw' : Nat → Nat), ∃ (qm' : Nat), HX n e r q cm w' ∧ F19 w w' ∧ CM st sv rc sz kw ns tk (cm 0) n w' ∧ WM ml tg mn n w' ∧ TM po tn w' ∧ QM ql' qt' pw' qm' 2 n w' ∧ UB ns n mn n tn 2 n qm')) := by
  refine jMet_of hs (by decide +kernel) (Nat.le_of_ble_eq_true rfl) (L := [some (.ref 0)]) rfl ?_
  obtain ⟨h0, h1⟩ := hH
  obtain ⟨h2, h3, h4, h5, h6, h7⟩ := hR
  obtain ⟨h8, h9, h10, h11, hz11⟩ := hRw
  obtain ⟨h12, h13⟩ := hRt
  obtain ⟨h14, h15, h16, h17, h18, hz17⟩ := hRq
  obtain ⟨hu1, hu2, hu3, hu4, hu5, ⟨hu6, hu7⟩, hu8, hu9⟩ := hUB
  have hG : F19 w w := F19.rf
  have hci := hy0
  have hpq := hy1
  have hge := hy2
  have hsz := hy3
  have hfi := hy5
  have hwx := hy6
  have hbd := Nat.le_trans (FI_le hfi) (fc_7 hn2)
  have hs0 := hsz 0 (by omega)
  rw [Nat.sub_zero] at hs0
  have hcd := nth_cd (by omega) hn2 hci hge hs0
  have hmn := FI_cd hwx hfi
  have hCl := Gg_Cl hn2 (gS_M (s := 63) (Nat.le_refl 6) hcm)
  have hN1 : 1 ≤ cd n (Gg n (gS cm 63 6)) := cd_pos (by omega) hn2 (eM_Mv hn2) Gg_e
  have hN5 := cd_5040 hn2 (Gg n (gS cm 63 6))
  have hpos := FI_pos (by omega) hn2 hwx hfi
  have hbu := burn (co := 2) (s := 63) (cm := cm) (by decide) (by omega) hn2 hcm
  have hcQ := FI_cQ (co := 2) hwx hfi
  have hcl : ct (fun k => ∀ j, j < k → ¬ Rc 2 n cm 63 j k) (2 ^ n) ≤ 2 ^ n := ct_le _ _
  have h2n : 2 ^ n ≤ 2 ^ 7 := Nat.pow_le_pow_right (by decide) hn2
  refine J_aload_n (pc := 0) dX6_colouringsAgree_0 rfl rfl rfl ?_
  refine J_get (pc := 1) (k := 2) dX6_colouringsAgree_1 kC7 (by decide) ff_X6_23 h0 rfl ?_
  refine J_iconst (pc := 4) (v := nI 2) dX6_colouringsAgree_4 (by decide) ?_
  refine J_callV0 (pc := 5) (M := mX6_colouringsAgree) (as := [.int (nI 2)]) dX6_colouringsAgree_5 fw_X5_colouringsByMean fl_X6_202 fm_X5_colouringsByMean fe_X5_colouringsByMean h8 (by decide) rfl rfl rfl (c_X5_colouringsByMean_atx hs (d := d - 1) (by omega) (ml := ml) (tg := tg) (mn := mn) (wn := n) ⟨h8, h9, h10, h11, hz11⟩ (w := w) 2 (by exact hbd) (by exact fun i hi => (hfi.1 i hi).1) (by exact hn2) (by exact hpos) (by decide) (kc := 0) (ks := 0)) (by omega) (st := []) (Nat.le_of_ble_eq_true rfl) rfl (kr_P fun v1 hv1 => ?_) kx_I
  subst hv1
  refine J_aload_n (pc := 8) dX6_colouringsAgree_8 rfl rfl rfl ?_
  refine J_get (pc := 9) (k := 4) dX6_colouringsAgree_9 kC7 (by decide) ff_X6_37 h0 rfl ?_
  refine J_aload_n (pc := 12) dX6_colouringsAgree_12 rfl rfl rfl ?_
  refine J_get (pc := 13) (k := 0) dX6_colouringsAgree_13 kC7 (by decide) ff_X6_9 h0 rfl ?_
  refine J_bipush (pc := 16) (v := nI 63) dX6_colouringsAgree_16 (by decide) ?_
  refine J_iconst (pc := 18) (v := nI 2) dX6_colouringsAgree_18 (by decide) ?_
  refine J_aload_n (pc := 19) dX6_colouringsAgree_19 rfl rfl rfl ?_
  refine J_get (pc := 20) (k := 5) dX6_colouringsAgree_20 kC7 (by decide) ff_X6_41 h0 rfl ?_
  refine J_callV0 (pc := 23) (M := mX6_colouringsAgree) (as := [.ref 1, .int (nI 63), .int (nI 2), .int (nI n)]) dX6_colouringsAgree_23 fw_X3_colouringsOneByOne fl_X6_205 fm_X3_colouringsOneByOne fe_X3_colouringsOneByOne h14 (by decide) rfl rfl rfl (c_X3_colouringsOneByOne_atx hs (d := d - 1) (by omega) (ql := ql) (qt := qt) (pw := pw) (qm := qm) (pc := pc) (qn := qn) ⟨h14, h15, h16, h17, h18, hz17⟩ h1 (w := w) 63 2 n (by exact hn1) (by exact hn2) (by decide) (by decide) (by exact hcm) (by decide) (kc := 0) (ks := 0)) (by omega) (st := [.int (nI (sm (fun i => 2 ^ hr (tg i) n) mn / mn))]) (Nat.le_of_ble_eq_true rfl) rfl (kr_I fun v2 w2 hv2 hw2 => ?_) kx_I
  obtain ⟨ql2, qt2, pw2, qm2, hR2, hFc2, hp2_0⟩ := hw2
  have h0_2 := (hFc2.2 0 (by decide)).trans h0
  have h1_2 := (hFc2.2 1 (by decide)).trans h1
  have h2_2 := (hFc2.2 2 (by decide)).trans h2
  have h3_2 := (hFc2.2 3 (by decide)).trans h3
  have h4_2 := (hFc2.2 4 (by decide)).trans h4
  have h5_2 := (hFc2.2 5 (by decide)).trans h5
  have h6_2 := (hFc2.2 6 (by decide)).trans h6
  have h7_2 := (hFc2.2 7 (by decide)).trans h7
  have h8_2 := (hFc2.2 8 (by decide)).trans h8
  have h9_2 := (hFc2.2 9 (by decide)).trans h9
  have h10_2 := (hFc2.2 10 (by decide)).trans h10
  have h11_2 := (hFc2.2 11 (by decide)).trans h11
  have h12_2 := (hFc2.2 12 (by decide)).trans h12
  have h13_2 := (hFc2.2 13 (by decide)).trans h13
  obtain ⟨h14_2, h15_2, h16_2, h17_2, h18_2, hz17_2⟩ := hR2
  have hG2 := hG.trB hFc2 (by decide)
  have hbq := hp2_0
  subst hv2
  refine J_icmp_neN (pc := 26) (tgt := 33) dX6_colouringsAgree_26 (by decide) (by omega) (by omega) (fun ht3 => ?_) (fun hf4 => ?_)
  · exact absurd (hcQ.trans hbu) ht3
  · refine J_iconst (pc := 29) (v := nI 1) dX6_colouringsAgree_29 (by decide) ?_
    refine J_goto (pc := 30) (tgt := 34) dX6_colouringsAgree_30 (by decide) ?_
    exact J_zret (pc := 34) dX6_colouringsAgree_34 rfl (nar_b (by first | decide | omega)) ⟨rfl, ⟨ql2, qt2, pw2, qm2, ⟨h0_2, h1_2⟩, hG2, ⟨h2_2, h3_2, h4_2, h5_2, h6_2, h7_2⟩, ⟨h8_2, h9_2, h10_2, h11_2, hz11⟩, ⟨h12_2, h13_2⟩, ⟨h14_2, h15_2, h16_2, h17_2, h18_2, hz17_2⟩, ⟨(by first | omega | exact CI_ns21 hn2 hci), (by first | omega | exact hbd), (by first | omega | exact hbd), (by first | omega | exact hbd), (by first | omega | exact hbd), ⟨by omega, by omega⟩, (by first | omega | exact hbd), (by first | omega | exact hbd)⟩⟩⟩
set_option maxRecDepth 100000 in
set_option maxHeartbeats 4000000 in
theorem c_X6_enoughSuffices_atu {X : jX} (hs : X.1.stackTraces = false) {d : Nat} (hd : 4 ≤ d) {st : Nat → Nat} {sv : Nat → Nat} {rc : Nat → Nat} {sz : Nat → Nat} {kw : Nat → Nat} {ns : Nat} {tk : Nat} {ml : List Int32} {tg : Nat → Nat} {mn : Nat} {po : Nat → Nat} {tn : Nat} {ql : List Int32} {qt : Nat → Nat} {pw : Nat → Nat} {qm : Nat} {pc : Nat} {qn : Nat} {n : Nat} {e r q : Int32} {cm : Nat → Nat} {w : List jC} (hH : HX n e r q cm w) (hn1 : 2 ≤ n) (hn2 : n ≤ 7) (hcm : ∀ c, c < 6 → Mv n (cm c)) (hR : CM st sv rc sz kw ns tk (cm 0) n w) (hRw : WM ml tg mn n w) (hRt : TM po tn w) (hRq : QM ql qt pw qm pc qn w) (hUB : UB ns n mn n tn pc qn qm) (hy0 : CI n (cm 0) st sv rc kw ns) (hy1 : PQ n rc st kw ns) (hy2 : ∀ x, CP n (RC rc) (ST st) n x ↔ (Gg n (gS cm 63 6)) x) (hy3 : ∀ l, l ≤ n → sz l = zF rc n (n - l)) (hy4 : tk = enF n cm 63 6) (hy5 : FI n ml tg mn) (hy6 : WX n cm 63 ml) {kc ks : Nat} : jMet X mX6_enoughSuffices d kc ks [.ref 0] w (pI (fun v => v = nI 1) (fun w' => ∃ (st' : Nat → Nat), ∃ (sv' : Nat → Nat), ∃ (rc' : Nat → Nat), ∃ (sz' : Nat → Nat), ∃ (kw' : Nat → Nat), ∃ (ns' : Nat), ∃ (tk' : Nat), HX n e r q cm w' ∧ F19 w w' ∧ CM st' sv' rc' sz' kw' ns' tk' (cm 0) n w' ∧ WM ml tg mn n w' ∧ TM po tn w' ∧ QM ql qt pw qm pc qn w' ∧ UB ns' n mn n tn pc qn qm)) := by
  refine jMet_of hs (by decide +kernel) (Nat.le_of_ble_eq_true rfl) (L := [some (.ref 0), none, none]) rfl ?_
  obtain ⟨h0, h1⟩ := hH
  obtain ⟨h2, h3, h4, h5, h6, h7⟩ := hR
  obtain ⟨h8, h9, h10, h11, hz11⟩ := hRw
  obtain ⟨h12, h13⟩ := hRt
  obtain ⟨h14, h15, h16, h17, h18, hz17⟩ := hRq
  obtain ⟨hu1, hu2, hu3, hu4, hu5, ⟨hu6, hu7⟩, hu8, hu9⟩ := hUB
  have hG : F19 w w := F19.rf
  have hci := hy0
  have hpq := hy1
  have hge := hy2
  have hsz := hy3
  have hfi := hy5
  have hwx := hy6
  have hbd := Nat.le_trans (FI_le hfi) (fc_7 hn2)
  have hs0 := hsz 0 (by omega)
  rw [Nat.sub_zero] at hs0
  have hcd := nth_cd (by omega) hn2 hci hge hs0
  have hmn := FI_cd hwx hfi
  have hCl := Gg_Cl hn2 (gS_M (s := 63) (Nat.le_refl 6) hcm)
  have hN1 : 1 ≤ cd n (Gg n (gS cm 63 6)) := cd_pos (by omega) hn2 (eM_Mv hn2) Gg_e
  have hN5 := cd_5040 hn2 (Gg n (gS cm 63 6))
  have htk6 := enF_lt (n := n) (cm := cm) (s := 63) 6 (Nat.le_refl 6)
  have hp2 := enF_2 (cm := cm) (s := 63) (by omega) hn2 hcm 6 (Nat.le_refl 6)
  rw [← hy4] at hp2 htk6
  have hpe : pc32 (nI tk) = cnt (fun i => tk.testBit i) 32 := pc32_nI (by omega)
  have hp2b : 2 ^ pc32 (nI tk) ≤ cd n (Gg n (gS cm 63 6)) := by rw [hpe]; exact hp2
  have hp3 := pw31c hp2b hN5
  refine J_aload_n (pc := 0) dX6_enoughSuffices_0 rfl rfl rfl ?_
  refine J_get (pc := 1) (k := 1) dX6_enoughSuffices_1 kC7 (by decide) ff_X6_16 h0 rfl ?_
  refine J_callV0 (pc := 4) (M := mX6_enoughSuffices) (as := []) dX6_enoughSuffices_4 fw_X0_total fl_X6_138 fm_X0_total fe_X0_total h2 (by decide) rfl rfl rfl (c_X0_total_atx hs (d := d - 1) (by omega) (st := st) (sv := sv) (rc := rc) (sz := sz) (kw := kw) (ns := ns) (tk := tk) (ro := cm 0) (nn := n) ⟨h2, h3, h4, h5, h6, h7⟩ (w := w)  (kc := 0) (ks := 0)) (by omega) (st := []) (Nat.le_of_ble_eq_true rfl) rfl (kr_P fun v1 hv1 => ?_) kx_I
  subst hv1
  refine J_istore_n (pc := 7) dX6_enoughSuffices_7 rfl (by decide) rfl ?_
  show J X mX6_enoughSuffices d kc ks 8 [some (.ref 0), some (.int (nI (sz 0))), none] [] w _
  refine J_aload_n (pc := 8) dX6_enoughSuffices_8 rfl rfl rfl ?_
  refine J_get (pc := 9) (k := 1) dX6_enoughSuffices_9 kC7 (by decide) ff_X6_16 h0 rfl ?_
  refine J_callV0 (pc := 12) (M := mX6_enoughSuffices) (as := []) dX6_enoughSuffices_12 fw_X0_takenCells fl_X6_225 fm_X0_takenCells fe_X0_takenCells h2 (by decide) rfl rfl rfl (c_X0_takenCells_atx hs (d := d - 1) (by omega) (st := st) (sv := sv) (rc := rc) (sz := sz) (kw := kw) (ns := ns) (tk := tk) (ro := cm 0) (nn := n) ⟨h2, h3, h4, h5, h6, h7⟩ (w := w)  (kc := 0) (ks := 0)) (by omega) (st := []) (Nat.le_of_ble_eq_true rfl) rfl (kr_P fun v2 hv2 => ?_) kx_I
  subst hv2
  refine J_istore_n (pc := 15) dX6_enoughSuffices_15 rfl (by decide) rfl ?_
  show J X mX6_enoughSuffices d kc ks 16 [some (.ref 0), some (.int (nI (sz 0))), some (.int (nI tk))] [] w _
  refine J_aload_n (pc := 16) dX6_enoughSuffices_16 rfl rfl rfl ?_
  refine J_get (pc := 17) (k := 1) dX6_enoughSuffices_17 kC7 (by decide) ff_X6_16 h0 rfl ?_
  refine J_aload_n (pc := 20) dX6_enoughSuffices_20 rfl rfl rfl ?_
  refine J_get (pc := 21) (k := 0) dX6_enoughSuffices_21 kC7 (by decide) ff_X6_9 h0 rfl ?_
  refine J_iload_n (pc := 24) dX6_enoughSuffices_24 rfl rfl ?_
  refine J_aload_n (pc := 25) dX6_enoughSuffices_25 rfl rfl rfl ?_
  refine J_get (pc := 26) (k := 0) dX6_enoughSuffices_26 kC7 (by decide) ff_X6_9 h0 rfl ?_
  refine J_iconst (pc := 29) (v := nI 0) dX6_enoughSuffices_29 (by decide) ?_
  refine J_ialdF (pc := 30) dX6_enoughSuffices_30 h1 (by decide) (by decide) ?_
  refine J_aload_n (pc := 31) dX6_enoughSuffices_31 rfl rfl rfl ?_
  refine J_get (pc := 32) (k := 5) dX6_enoughSuffices_32 kC7 (by decide) ff_X6_41 h0 rfl ?_
  refine J_callV0 (pc := 35) (M := mX6_enoughSuffices) (as := [.ref 1, .int (nI tk), .int (nI (cm 0)), .int (nI n)]) dX6_enoughSuffices_35 fw_X0_raise fl_X6_134 fm_X0_raise fe_X0_raise h2 (by decide) rfl rfl rfl (c_X0_raise_atx hs (d := d - 1) (by omega) (st := st) (sv := sv) (rc := rc) (sz := sz) (kw := kw) (ns := ns) (tk := tk) (ro := cm 0) (nn := n) ⟨h2, h3, h4, h5, h6, h7⟩ h1 (w := w) tk (cm 0) n (by exact hn2) (by exact hcm 0 (by decide)) (by exact htk6) (by exact hcm) (kc := 0) (ks := 0)) (by omega) (st := []) (Nat.le_of_ble_eq_true rfl) rfl (kr_V fun w3 hw3 => ?_) kx_V
  obtain ⟨st3, sv3, rc3, sz3, kw3, ns3, tk3, hR3, hFc3, hp3_0, hp3_1, hp3_2, hp3_3, hp3_4⟩ := hw3
  have h0_3 := (hFc3.2 0 (by decide)).trans h0
  have h1_3 := (hFc3.2 1 (by decide)).trans h1
  have h8_3 := (hFc3.2 8 (by decide)).trans h8
  have h9_3 := (hFc3.2 9 (by decide)).trans h9
  have h10_3 := (hFc3.2 10 (by decide)).trans h10
  have h11_3 := (hFc3.2 11 (by decide)).trans h11
  have h12_3 := (hFc3.2 12 (by decide)).trans h12
  have h13_3 := (hFc3.2 13 (by decide)).trans h13
  have h14_3 := (hFc3.2 14 (by decide)).trans h14
  have h15_3 := (hFc3.2 15 (by decide)).trans h15
  have h16_3 := (hFc3.2 16 (by decide)).trans h16
  have h17_3 := (hFc3.2 17 (by decide)).trans h17
  have h18_3 := (hFc3.2 18 (by decide)).trans h18
  obtain ⟨h2_3, h3_3, h4_3, h5_3, h6_3, h7_3⟩ := hR3
  have hG3 := hG.trC hFc3
  have hci2 := hp3_0
  have hpq2 := hp3_1
  have hge2 := hp3_2
  have hsz2 := hp3_3
  have hs2 := hsz2 0 (by omega)
  rw [Nat.sub_zero] at hs2
  have hcd2 := nth_cd (by omega) hn2 hci2 hge2 hs2
  have hci := hci2
  have hsame : cd n (Gg n (gS cm tk 6)) = cd n (Gg n (gS cm 63 6)) := cd_iff (by omega) hn2 (fun x _ => by rw [hy4]; exact enF_grp hn2 hcm 6 (Nat.le_refl 6) x)
  refine J_aload_n (pc := 38) dX6_enoughSuffices_38 rfl rfl rfl ?_
  refine J_get (pc := 39) (k := 1) dX6_enoughSuffices_39 kC7 (by decide) ff_X6_16 h0_3 rfl ?_
  refine J_callV0 (pc := 42) (M := mX6_enoughSuffices) (as := []) dX6_enoughSuffices_42 fw_X0_total fl_X6_138 fm_X0_total fe_X0_total h2_3 (by decide) rfl rfl rfl (c_X0_total_atx hs (d := d - 1) (by omega) (st := st3) (sv := sv3) (rc := rc3) (sz := sz3) (kw := kw3) (ns := ns3) (tk := tk3) (ro := (cm 0)) (nn := n) ⟨h2_3, h3_3, h4_3, h5_3, h6_3, h7_3⟩ (w := w3)  (kc := 0) (ks := 0)) (by omega) (st := []) (Nat.le_of_ble_eq_true rfl) rfl (kr_P fun v4 hv4 => ?_) kx_I
  subst hv4
  refine J_iload_n (pc := 45) dX6_enoughSuffices_45 rfl rfl ?_
  refine J_icmp_neN (pc := 46) (tgt := 63) dX6_enoughSuffices_46 (by decide) (by omega) (by omega) (fun ht5 => ?_) (fun hf6 => ?_)
  · exact absurd (hcd2.trans (hsame.trans hcd.symm)) ht5
  · refine J_iload_n (pc := 49) dX6_enoughSuffices_49 rfl rfl ?_
    refine J_iconst (pc := 50) (v := nI 1) dX6_enoughSuffices_50 (by decide) ?_
    refine J_iload_n (pc := 51) dX6_enoughSuffices_51 rfl rfl ?_
    refine J_callS0 (pc := 52) (M := mX6_enoughSuffices) (as := [.int (nI tk)]) dX6_enoughSuffices_52 fw_J6_bitCount_0f7a4 fl_X6_220 fs_J6_bitCount_0f7a4 rfl (c_J6_bitCount_0f7a4_atx hs (d := d - 1) (by omega) (w := w3) (nI tk) (kc := 0) (ks := 0)) (by omega) (st := [.int (nI 1), .int (nI (sz 0))]) (Nat.le_of_ble_eq_true rfl) rfl (kr_P fun v7 hv7 => ?_) kx_I
    subst hv7
    refine J_shlOne (pc := 55) dX6_enoughSuffices_55 (by omega) ?_
    refine J_icmp_ltN (pc := 56) (tgt := 63) dX6_enoughSuffices_56 (by decide) (by omega) (by omega) (fun ht8 => ?_) (fun hf9 => ?_)
    · exact absurd ht8 (by omega)
    · refine J_iconst (pc := 59) (v := nI 1) dX6_enoughSuffices_59 (by decide) ?_
      refine J_goto (pc := 60) (tgt := 64) dX6_enoughSuffices_60 (by decide) ?_
      exact J_zret (pc := 64) dX6_enoughSuffices_64 rfl (nar_b (by first | decide | omega)) ⟨rfl, ⟨st3, sv3, rc3, sz3, kw3, ns3, tk3, ⟨h0_3, h1_3⟩, hG3, ⟨h2_3, h3_3, h4_3, h5_3, h6_3, h7_3⟩, ⟨h8_3, h9_3, h10_3, h11_3, hz11⟩, ⟨h12_3, h13_3⟩, ⟨h14_3, h15_3, h16_3, h17_3, h18_3, hz17⟩, ⟨(by first | omega | exact CI_ns21 hn2 hci), (by first | omega | exact hbd), (by first | omega | exact hbd), (by first | omega | exact hbd), (by first | omega | exact hbd), ⟨by omega, by omega⟩, (by first | omega | exact hbd), (by first | omega | exact hbd)⟩⟩⟩
set_option maxRecDepth 100000 in
set_option maxHeartbeats 4000000 in
theorem c_X6_allAgrees_atu {X : jX} (hs : X.1.stackTraces = false) {d : Nat} (hd : 6 ≤ d) {st : Nat → Nat} {sv : Nat → Nat} {rc : Nat → Nat} {sz : Nat → Nat} {kw : Nat → Nat} {ns : Nat} {tk : Nat} {ml : List Int32} {tg : Nat → Nat} {mn : Nat} {po : Nat → Nat} {tn : Nat} {ql : List Int32} {qt : Nat → Nat} {pw : Nat → Nat} {qm : Nat} {pc : Nat} {qn : Nat} {n : Nat} {e r q : Int32} {cm : Nat → Nat} {w : List jC} (hH : HX n e r q cm w) (hn1 : 2 ≤ n) (hn2 : n ≤ 7) (hcm : ∀ c, c < 6 → Mv n (cm c)) (hR : CM st sv rc sz kw ns tk (cm 0) n w) (hRw : WM ml tg mn n w) (hRt : TM po tn w) (hRq : QM ql qt pw qm pc qn w) (hUB : UB ns n mn n tn pc qn qm) (hy0 : CI n (cm 0) st sv rc kw ns) (hy1 : PQ n rc st kw ns) (hy2 : ∀ x, CP n (RC rc) (ST st) n x ↔ (Gg n (gS cm 63 6)) x) (hy3 : ∀ l, l ≤ n → sz l = zF rc n (n - l)) (hy4 : tk = enF n cm 63 6) (hy5 : FI n ml tg mn) (hy6 : WX n cm 63 ml) {kc ks : Nat} : jMet X mX6_allAgrees d kc ks [.ref 0] w (pI (fun v => v = nI 1) (fun w' => ∃ (st' : Nat → Nat), ∃ (sv' : Nat → Nat), ∃ (rc' : Nat → Nat), ∃ (sz' : Nat → Nat), ∃ (kw' : Nat → Nat), ∃ (ns' : Nat), ∃ (tk' : Nat), ∃ (ql' : List Int32), ∃ (qt' : Nat → Nat), ∃ (pw' : Nat → Nat), ∃ (qm' : Nat), HX n e r q cm w' ∧ F19 w w' ∧ CM st' sv' rc' sz' kw' ns' tk' (cm 0) n w' ∧ WM ml tg mn n w' ∧ TM po tn w' ∧ QM ql' qt' pw' qm' 2 n w' ∧ UB ns' n mn n tn 2 n qm')) := by
  refine jMet_of hs (by decide +kernel) (Nat.le_of_ble_eq_true rfl) (L := [some (.ref 0)]) rfl ?_
  obtain ⟨h0, h1⟩ := hH
  obtain ⟨h2, h3, h4, h5, h6, h7⟩ := hR
  obtain ⟨h8, h9, h10, h11, hz11⟩ := hRw
  obtain ⟨h12, h13⟩ := hRt
  obtain ⟨h14, h15, h16, h17, h18, hz17⟩ := hRq
  obtain ⟨hu1, hu2, hu3, hu4, hu5, ⟨hu6, hu7⟩, hu8, hu9⟩ := hUB
  have hG : F19 w w := F19.rf
  have hci := hy0
  have hpq := hy1
  have hge := hy2
  have hsz := hy3
  have hfi := hy5
  have hwx := hy6
  have hbd := Nat.le_trans (FI_le hfi) (fc_7 hn2)
  have hs0 := hsz 0 (by omega)
  rw [Nat.sub_zero] at hs0
  have hcd := nth_cd (by omega) hn2 hci hge hs0
  have hmn := FI_cd hwx hfi
  have hCl := Gg_Cl hn2 (gS_M (s := 63) (Nat.le_refl 6) hcm)
  have hN1 : 1 ≤ cd n (Gg n (gS cm 63 6)) := cd_pos (by omega) hn2 (eM_Mv hn2) Gg_e
  have hN5 := cd_5040 hn2 (Gg n (gS cm 63 6))
  refine J_aload_n (pc := 0) dX6_allAgrees_0 rfl rfl rfl ?_
  refine J_callV0 (pc := 1) (M := mX6_allAgrees) (as := []) dX6_allAgrees_1 fw_X6_sizesAgree fl_X6_268 fm_X6_sizesAgree fe_X6_sizesAgree h0 (by decide) rfl rfl rfl (c_X6_sizesAgree_atu hs (d := d - 1) (by omega) (st := st) (sv := sv) (rc := rc) (sz := sz) (kw := kw) (ns := ns) (tk := tk) (ml := ml) (tg := tg) (mn := mn) (po := po) (tn := tn) (ql := ql) (qt := qt) (pw := pw) (qm := qm) (pc := pc) (qn := qn) (n := n) (e := e) (r := r) (q := q) (cm := cm) (w := w) ⟨h0, h1⟩ hn1 hn2 hcm ⟨h2, h3, h4, h5, h6, h7⟩ ⟨h8, h9, h10, h11, hz11⟩ ⟨h12, h13⟩ ⟨h14, h15, h16, h17, h18, hz17⟩ ⟨(by first | omega | exact CI_ns21 hn2 hci), (by first | omega | exact hbd), (by first | omega | exact hbd), (by first | omega | exact hbd), (by first | omega | exact hbd), ⟨by omega, by omega⟩, (by first | omega | exact hbd), (by first | omega | exact hbd)⟩ (by first | assumption | omega) (by first | assumption | omega) (by first | assumption | omega) (by first | assumption | omega) (by first | assumption | omega) (by first | assumption | omega) (by first | assumption | omega) (kc := 0) (ks := 0)) (by omega) (st := []) (Nat.le_of_ble_eq_true rfl) rfl (kr_P fun v1 hv1 => ?_) kx_I
  subst hv1
  refine J_if_eqN (pc := 4) (tgt := 55) dX6_allAgrees_4 (by decide) (by decide) (fun h => absurd h (by decide)) (fun _ => ?_)
  refine J_aload_n (pc := 7) dX6_allAgrees_7 rfl rfl rfl ?_
  refine J_callV0 (pc := 8) (M := mX6_allAgrees) (as := []) dX6_allAgrees_8 fw_X6_ranksAgree fl_X6_271 fm_X6_ranksAgree fe_X6_ranksAgree h0 (by decide) rfl rfl rfl (c_X6_ranksAgree_atu hs (d := d - 1) (by omega) (st := st) (sv := sv) (rc := rc) (sz := sz) (kw := kw) (ns := ns) (tk := tk) (ml := ml) (tg := tg) (mn := mn) (po := po) (tn := tn) (ql := ql) (qt := qt) (pw := pw) (qm := qm) (pc := pc) (qn := qn) (n := n) (e := e) (r := r) (q := q) (cm := cm) (w := w) ⟨h0, h1⟩ hn1 hn2 hcm ⟨h2, h3, h4, h5, h6, h7⟩ ⟨h8, h9, h10, h11, hz11⟩ ⟨h12, h13⟩ ⟨h14, h15, h16, h17, h18, hz17⟩ ⟨(by first | omega | exact CI_ns21 hn2 hci), (by first | omega | exact hbd), (by first | omega | exact hbd), (by first | omega | exact hbd), (by first | omega | exact hbd), ⟨by omega, by omega⟩, (by first | omega | exact hbd), (by first | omega | exact hbd)⟩ (by first | assumption | omega) (by first | assumption | omega) (by first | assumption | omega) (by first | assumption | omega) (by first | assumption | omega) (by first | assumption | omega) (by first | assumption | omega) (kc := 0) (ks := 0)) (by omega) (st := []) (Nat.le_of_ble_eq_true rfl) rfl (kr_P fun v2 hv2 => ?_) kx_I
  subst hv2
  refine J_if_eqN (pc := 11) (tgt := 55) dX6_allAgrees_11 (by decide) (by decide) (fun h => absurd h (by decide)) (fun _ => ?_)
  refine J_aload_n (pc := 14) dX6_allAgrees_14 rfl rfl rfl ?_
  refine J_callV0 (pc := 15) (M := mX6_allAgrees) (as := []) dX6_allAgrees_15 fw_X6_signsAgree fl_X6_274 fm_X6_signsAgree fe_X6_signsAgree h0 (by decide) rfl rfl rfl (c_X6_signsAgree_atu hs (d := d - 1) (by omega) (st := st) (sv := sv) (rc := rc) (sz := sz) (kw := kw) (ns := ns) (tk := tk) (ml := ml) (tg := tg) (mn := mn) (po := po) (tn := tn) (ql := ql) (qt := qt) (pw := pw) (qm := qm) (pc := pc) (qn := qn) (n := n) (e := e) (r := r) (q := q) (cm := cm) (w := w) ⟨h0, h1⟩ hn1 hn2 hcm ⟨h2, h3, h4, h5, h6, h7⟩ ⟨h8, h9, h10, h11, hz11⟩ ⟨h12, h13⟩ ⟨h14, h15, h16, h17, h18, hz17⟩ ⟨(by first | omega | exact CI_ns21 hn2 hci), (by first | omega | exact hbd), (by first | omega | exact hbd), (by first | omega | exact hbd), (by first | omega | exact hbd), ⟨by omega, by omega⟩, (by first | omega | exact hbd), (by first | omega | exact hbd)⟩ (by first | assumption | omega) (by first | assumption | omega) (by first | assumption | omega) (by first | assumption | omega) (by first | assumption | omega) (by first | assumption | omega) (by first | assumption | omega) (kc := 0) (ks := 0)) (by omega) (st := []) (Nat.le_of_ble_eq_true rfl) rfl (kr_P fun v3 hv3 => ?_) kx_I
  subst hv3
  refine J_if_eqN (pc := 18) (tgt := 55) dX6_allAgrees_18 (by decide) (by decide) (fun h => absurd h (by decide)) (fun _ => ?_)
  refine J_aload_n (pc := 21) dX6_allAgrees_21 rfl rfl rfl ?_
  refine J_get (pc := 22) (k := 1) dX6_allAgrees_22 kC7 (by decide) ff_X6_16 h0 rfl ?_
  refine J_aload_n (pc := 25) dX6_allAgrees_25 rfl rfl rfl ?_
  refine J_get (pc := 26) (k := 0) dX6_allAgrees_26 kC7 (by decide) ff_X6_9 h0 rfl ?_
  refine J_bipush (pc := 29) (v := nI 63) dX6_allAgrees_29 (by decide) ?_
  refine J_callV0 (pc := 31) (M := mX6_allAgrees) (as := [.ref 1, .int (nI 63)]) dX6_allAgrees_31 fw_X0_holdsAll fl_X6_209 fm_X0_holdsAll fe_X0_holdsAll h2 (by decide) rfl rfl rfl (c_X0_holdsAll_atx hs (d := d - 1) (by omega) (st := st) (sv := sv) (rc := rc) (sz := sz) (kw := kw) (ns := ns) (tk := tk) (ro := cm 0) (nn := n) ⟨h2, h3, h4, h5, h6, h7⟩ h1 (w := w) 63 (by omega) (by exact hn2) (by exact hci) (by exact hpq) (by exact hsz) (by exact hcm) (by decide) (kc := 0) (ks := 0)) (by omega) (st := []) (Nat.le_of_ble_eq_true rfl) rfl (kr_P fun v4 hv4 => ?_) kx_I
  rcases hv4 with ⟨rfl, hk4_0⟩ | ⟨rfl, hk4_0⟩
  · exact absurd (fun c hc hs => (hge _).mpr (Gg_of hn2 (gS_M (Nat.le_refl 6) hcm) ⟨c, hc, hs, rfl⟩)) hk4_0
  · refine J_if_eqN (pc := 34) (tgt := 55) dX6_allAgrees_34 (by decide) (by decide) (fun h => absurd h (by decide)) (fun _ => ?_)
    refine J_aload_n (pc := 37) dX6_allAgrees_37 rfl rfl rfl ?_
    refine J_callV0 (pc := 38) (M := mX6_allAgrees) (as := []) dX6_allAgrees_38 fw_X6_colouringsAgree fl_X6_277 fm_X6_colouringsAgree fe_X6_colouringsAgree h0 (by decide) rfl rfl rfl (c_X6_colouringsAgree_atu hs (d := d - 1) (by omega) (st := st) (sv := sv) (rc := rc) (sz := sz) (kw := kw) (ns := ns) (tk := tk) (ml := ml) (tg := tg) (mn := mn) (po := po) (tn := tn) (ql := ql) (qt := qt) (pw := pw) (qm := qm) (pc := pc) (qn := qn) (n := n) (e := e) (r := r) (q := q) (cm := cm) (w := w) ⟨h0, h1⟩ hn1 hn2 hcm ⟨h2, h3, h4, h5, h6, h7⟩ ⟨h8, h9, h10, h11, hz11⟩ ⟨h12, h13⟩ ⟨h14, h15, h16, h17, h18, hz17⟩ ⟨(by first | omega | exact CI_ns21 hn2 hci), (by first | omega | exact hbd), (by first | omega | exact hbd), (by first | omega | exact hbd), (by first | omega | exact hbd), ⟨by omega, by omega⟩, (by first | omega | exact hbd), (by first | omega | exact hbd)⟩ (by exact hy0) (by exact hy1) (by exact hy2) (by exact hy3) (by exact hy4) (by exact hy5) (by exact hy6) (kc := 0) (ks := 0)) (by omega) (st := []) (Nat.le_of_ble_eq_true rfl) rfl (kr_I fun v5 w5 hv5 hw5 => ?_) kx_I
    obtain ⟨ql5, qt5, pw5, qm5, ⟨h0_5, h1_5⟩, hGc5, ⟨h2_5, h3_5, h4_5, h5_5, h6_5, h7_5⟩, ⟨h8_5, h9_5, h10_5, h11_5, hz11_5⟩, ⟨h12_5, h13_5⟩, ⟨h14_5, h15_5, h16_5, h17_5, h18_5, hz17_5⟩, ⟨hu1_5, hu2_5, hu3_5, hu4_5, hu5_5, ⟨hu6_5, hu7_5⟩, hu8_5, hu9_5⟩⟩ := hw5
    have hG5 := hG.tr hGc5
    subst hv5
    refine J_if_eqN (pc := 41) (tgt := 55) dX6_allAgrees_41 (by decide) (by decide) (fun h => absurd h (by decide)) (fun _ => ?_)
    refine J_aload_n (pc := 44) dX6_allAgrees_44 rfl rfl rfl ?_
    refine J_callV0 (pc := 45) (M := mX6_allAgrees) (as := []) dX6_allAgrees_45 fw_X6_enoughSuffices fl_X6_280 fm_X6_enoughSuffices fe_X6_enoughSuffices h0_5 (by decide) rfl rfl rfl (c_X6_enoughSuffices_atu hs (d := d - 1) (by omega) (st := st) (sv := sv) (rc := rc) (sz := sz) (kw := kw) (ns := ns) (tk := tk) (ml := ml) (tg := tg) (mn := mn) (po := po) (tn := tn) (ql := ql5) (qt := qt5) (pw := pw5) (qm := qm5) (pc := 2) (qn := n) (n := n) (e := e) (r := r) (q := q) (cm := cm) (w := w5) ⟨h0_5, h1_5⟩ hn1 hn2 hcm ⟨h2_5, h3_5, h4_5, h5_5, h6_5, h7_5⟩ ⟨h8_5, h9_5, h10_5, h11_5, hz11_5⟩ ⟨h12_5, h13_5⟩ ⟨h14_5, h15_5, h16_5, h17_5, h18_5, hz17_5⟩ ⟨(by first | omega | exact CI_ns21 hn2 hci), (by first | omega | exact hbd), (by first | omega | exact hbd), (by first | omega | exact hbd), (by first | omega | exact hbd), ⟨by omega, by omega⟩, (by first | omega | exact hbd), (by first | omega | exact hbd)⟩ (by exact hy0) (by exact hy1) (by exact hy2) (by exact hy3) (by exact hy4) (by exact hy5) (by exact hy6) (kc := 0) (ks := 0)) (by omega) (st := []) (Nat.le_of_ble_eq_true rfl) rfl (kr_I fun v6 w6 hv6 hw6 => ?_) kx_I
    obtain ⟨st6, sv6, rc6, sz6, kw6, ns6, tk6, ⟨h0_6, h1_6⟩, hGc6, ⟨h2_6, h3_6, h4_6, h5_6, h6_6, h7_6⟩, ⟨h8_6, h9_6, h10_6, h11_6, hz11_6⟩, ⟨h12_6, h13_6⟩, ⟨h14_6, h15_6, h16_6, h17_6, h18_6, hz17_6⟩, ⟨hu1_6, hu2_6, hu3_6, hu4_6, hu5_6, ⟨hu6_6, hu7_6⟩, hu8_6, hu9_6⟩⟩ := hw6
    have hG6 := hG5.tr hGc6
    subst hv6
    refine J_if_eqN (pc := 48) (tgt := 55) dX6_allAgrees_48 (by decide) (by decide) (fun h => absurd h (by decide)) (fun _ => ?_)
    refine J_iconst (pc := 51) (v := nI 1) dX6_allAgrees_51 (by decide) ?_
    refine J_goto (pc := 52) (tgt := 56) dX6_allAgrees_52 (by decide) ?_
    exact J_zret (pc := 56) dX6_allAgrees_56 rfl (nar_b (by first | decide | omega)) ⟨rfl, ⟨st6, sv6, rc6, sz6, kw6, ns6, tk6, ql5, qt5, pw5, qm5, ⟨h0_6, h1_6⟩, hG6, ⟨h2_6, h3_6, h4_6, h5_6, h6_6, h7_6⟩, ⟨h8_6, h9_6, h10_6, h11_6, hz11_6⟩, ⟨h12_6, h13_6⟩, ⟨h14_6, h15_6, h16_6, h17_6, h18_6, hz17_6⟩, ⟨(by first | omega | exact CI_ns21 hn2 hci), (by first | omega | exact hbd), (by first | omega | exact hbd), (by first | omega | exact hbd), (by first | omega | exact hbd), ⟨by omega, by omega⟩, (by first | omega | exact hbd), (by first | omega | exact hbd)⟩⟩⟩
set_option maxRecDepth 100000 in
set_option maxHeartbeats 4000000 in
theorem c_X6_isSound_atx {X : jX} (hs : X.1.stackTraces = false) {d : Nat} (hd : 7 ≤ d) {st : Nat → Nat} {sv : Nat → Nat} {rc : Nat → Nat} {sz : Nat → Nat} {kw : Nat → Nat} {ns : Nat} {tk : Nat} {ro : Nat} {nn : Nat} {ml : List Int32} {tg : Nat → Nat} {mn : Nat} {wn : Nat} {po : Nat → Nat} {tn : Nat} {ql : List Int32} {qt : Nat → Nat} {pw : Nat → Nat} {qm : Nat} {pc : Nat} {qn : Nat} {n : Nat} {e r q : Int32} {cm : Nat → Nat} {w : List jC} (hH : HX n e r q cm w) (hn1 : 2 ≤ n) (hn2 : n ≤ 7) (hcm : ∀ c, c < 6 → Mv n (cm c)) (hR : CM st sv rc sz kw ns tk ro nn w) (hRw : WM ml tg mn wn w) (hRt : TM po tn w) (hRq : QM ql qt pw qm pc qn w) (hUB : UB ns nn mn wn tn pc qn qm) {kc ks : Nat} : jMet X mX6_isSound d kc ks [.ref 0] w (pJ (fun v w' => v = nI 1 ∧ HX n e r q cm w' ∧ F19 w w' ∧ AU w')) := by
  refine jMet_of hs (by decide +kernel) (Nat.le_of_ble_eq_true rfl) (L := [some (.ref 0)]) rfl ?_
  obtain ⟨h0, h1⟩ := hH
  obtain ⟨h2, h3, h4, h5, h6, h7⟩ := hR
  obtain ⟨h8, h9, h10, h11, hz11⟩ := hRw
  obtain ⟨h12, h13⟩ := hRt
  obtain ⟨h14, h15, h16, h17, h18, hz17⟩ := hRq
  obtain ⟨hu1, hu2, hu3, hu4, hu5, ⟨hu6, hu7⟩, hu8, hu9⟩ := hUB
  have hG : F19 w w := F19.rf
  refine J_aload_n (pc := 0) dX6_isSound_0 rfl rfl rfl ?_
  refine J_callV0 (pc := 1) (M := mX6_isSound) (as := []) dX6_isSound_1 fw_X6_raiseAll fl_X6_228 fm_X6_raiseAll fe_X6_raiseAll h0 (by decide) rfl rfl rfl (c_X6_raiseAll_atu hs (d := d - 1) (by omega) (st := st) (sv := sv) (rc := rc) (sz := sz) (kw := kw) (ns := ns) (tk := tk) (ro := ro) (nn := nn) (ml := ml) (tg := tg) (mn := mn) (wn := wn) (po := po) (tn := tn) (ql := ql) (qt := qt) (pw := pw) (qm := qm) (pc := pc) (qn := qn) (n := n) (e := e) (r := r) (q := q) (cm := cm) (w := w) ⟨h0, h1⟩ hn1 hn2 hcm ⟨h2, h3, h4, h5, h6, h7⟩ ⟨h8, h9, h10, h11, hz11⟩ ⟨h12, h13⟩ ⟨h14, h15, h16, h17, h18, hz17⟩ ⟨(by first | omega | exact CI_ns21 hn2 hci), (by first | omega | exact hbd), (by first | omega | exact hbd), (by first | omega | exact hbd), (by first | omega | exact hbd), ⟨by omega, by omega⟩, (by first | omega | exact hbd), (by first | omega | exact hbd)⟩ (kc := 0) (ks := 0)) (by omega) (st := []) (Nat.le_of_ble_eq_true rfl) rfl (kr_V fun w1 hw1 => ?_) kx_V
  obtain ⟨st1, sv1, rc1, sz1, kw1, ns1, tk1, ml1, tg1, mn1, ⟨h0_1, h1_1⟩, hGc1, ⟨h2_1, h3_1, h4_1, h5_1, h6_1, h7_1⟩, ⟨h8_1, h9_1, h10_1, h11_1, hz11_1⟩, ⟨h12_1, h13_1⟩, ⟨h14_1, h15_1, h16_1, h17_1, h18_1, hz17_1⟩, ⟨hu1_1, hu2_1, hu3_1, hu4_1, hu5_1, ⟨hu6_1, hu7_1⟩, hu8_1, hu9_1⟩, hp1_0, hp1_1, hp1_2, hp1_3, hp1_4, hp1_5, hp1_6⟩ := hw1
  have hG1 := hG.tr hGc1
  refine J_aload_n (pc := 4) dX6_isSound_4 rfl rfl rfl ?_
  refine J_callV0 (pc := 5) (M := mX6_isSound) (as := []) dX6_isSound_5 fw_X6_allAgrees fl_X6_231 fm_X6_allAgrees fe_X6_allAgrees h0_1 (by decide) rfl rfl rfl (c_X6_allAgrees_atu hs (d := d - 1) (by omega) (st := st1) (sv := sv1) (rc := rc1) (sz := sz1) (kw := kw1) (ns := ns1) (tk := tk1) (ml := ml1) (tg := tg1) (mn := mn1) (po := po) (tn := tn) (ql := ql) (qt := qt) (pw := pw) (qm := qm) (pc := pc) (qn := qn) (n := n) (e := e) (r := r) (q := q) (cm := cm) (w := w1) ⟨h0_1, h1_1⟩ hn1 hn2 hcm ⟨h2_1, h3_1, h4_1, h5_1, h6_1, h7_1⟩ ⟨h8_1, h9_1, h10_1, h11_1, hz11_1⟩ ⟨h12_1, h13_1⟩ ⟨h14_1, h15_1, h16_1, h17_1, h18_1, hz17_1⟩ ⟨(by first | omega | exact CI_ns21 hn2 hci), (by first | omega | exact hbd), (by first | omega | exact hbd), (by first | omega | exact hbd), (by first | omega | exact hbd), ⟨by omega, by omega⟩, (by first | omega | exact hbd), (by first | omega | exact hbd)⟩ (by first | assumption | omega) (by first | assumption | omega) (by first | assumption | omega) (by first | assumption | omega) (by first | assumption | omega) (by first | assumption | omega) (by first | assumption | omega) (kc := 0) (ks := 0)) (by omega) (st := []) (Nat.le_of_ble_eq_true rfl) rfl (kr_I fun v2 w2 hv2 hw2 => ?_) kx_I
  obtain ⟨st2, sv2, rc2, sz2, kw2, ns2, tk2, ql2, qt2, pw2, qm2, ⟨h0_2, h1_2⟩, hGc2, ⟨h2_2, h3_2, h4_2, h5_2, h6_2, h7_2⟩, ⟨h8_2, h9_2, h10_2, h11_2, hz11_2⟩, ⟨h12_2, h13_2⟩, ⟨h14_2, h15_2, h16_2, h17_2, h18_2, hz17_2⟩, ⟨hu1_2, hu2_2, hu3_2, hu4_2, hu5_2, ⟨hu6_2, hu7_2⟩, hu8_2, hu9_2⟩⟩ := hw2
  have hG2 := hG1.tr hGc2
  subst hv2
  exact J_zret (pc := 8) dX6_isSound_8 rfl (nar_b (by first | decide | omega)) (⟨rfl, ⟨h0_2, h1_2⟩, hG2, ⟨_, _, _, _, _, _, _, _, _, _, _, _, _, _, _, _, _, _, _, _, _, ⟨h2_2, h3_2, h4_2, h5_2, h6_2, h7_2⟩, ⟨h8_2, h9_2, h10_2, h11_2, hz11_2⟩, ⟨h12_2, h13_2⟩, ⟨h14_2, h15_2, h16_2, h17_2, h18_2, hz17_2⟩, ⟨(by first | omega | exact CI_ns21 hn2 hci), (by first | omega | exact hbd), (by first | omega | exact hbd), (by first | omega | exact hbd), (by first | omega | exact hbd), ⟨by omega, by omega⟩, (by first | omega | exact hbd), (by first | omega | exact hbd)⟩⟩⟩)
end
section
/-! the house's shape out of all its cells -/
theorem SH_of {st sv rc sz kw : Nat → Nat} {ns tk ro nn : Nat} {ml : List Int32} {tg : Nat → Nat} {mn wn : Nat} {po : Nat → Nat} {tn : Nat} {ql : List Int32} {qt pw : Nat → Nat} {qm pc qn : Nat} {n : Nat} {e r q : Int32} {cm : Nat → Nat} {w : List jC} (hH : HX n e r q cm w) (hC : CM st sv rc sz kw ns tk ro nn w) (hW : WM ml tg mn wn w) (hT : TM po tn w) (hQ : QM ql qt pw qm pc qn w) (hU : UB ns nn mn wn tn pc qn qm) : SH (rX n e r q) w := fun i p hp => by
  obtain ⟨c2, c3, c4, c5, c6, c7⟩ := hC
  obtain ⟨c8, c9, c10, c11, l11⟩ := hW
  obtain ⟨c12, c13⟩ := hT
  obtain ⟨c14, c15, c16, c17, c18, l17⟩ := hQ
  obtain ⟨b1, b2, b4, b3, b5, ⟨b6, b7⟩, b8, b9⟩ := hU
  match i, hp with
  | 0, hp => cases hp; exact ⟨_, hH.1, rfl⟩
  | 1, hp => cases hp; exact ⟨_, hH.2, tA_aF⟩
  | 2, hp => cases hp; exact ⟨_, c2, ns, nn, nI tk, nI ro, rfl, b1, b2⟩
  | 3, hp => cases hp; exact ⟨_, c3, tA_aF⟩
  | 4, hp => cases hp; exact ⟨_, c4, tA_aF⟩
  | 5, hp => cases hp; exact ⟨_, c5, tA_aF⟩
  | 6, hp => cases hp; exact ⟨_, c6, tA_aF⟩
  | 7, hp => cases hp; exact ⟨_, c7, tA_aF⟩
  | 8, hp => cases hp; exact ⟨_, c8, wn, rfl, b3⟩
  | 9, hp => cases hp; exact ⟨_, c9, mn, rfl, b4⟩
  | 10, hp => cases hp; exact ⟨_, c10, tA_aF⟩
  | 11, hp => cases hp; exact ⟨_, c11, ml, rfl, l11⟩
  | 12, hp => cases hp; exact ⟨_, c12, tn, rfl, b5⟩
  | 13, hp => cases hp; exact ⟨_, c13, tA_aF⟩
  | 14, hp => cases hp; exact ⟨_, c14, pc, qn, rfl, b6, b7, b8⟩
  | 15, hp => cases hp; exact ⟨_, c15, qm, rfl, b9⟩
  | 16, hp => cases hp; exact ⟨_, c16, tA_aF⟩
  | 17, hp => cases hp; exact ⟨_, c17, ql, rfl, l17⟩
  | 18, hp => cases hp; exact ⟨_, c18, tA_aF⟩
  | i + 19, hp => exact absurd hp (by show ¬ none = some p; exact fun h => nomatch h)
end
