/-! contracts of the reference: rspec4 -/
set_option maxRecDepth 100000 in
set_option maxHeartbeats 40000000 in
theorem c_X8_house {X : jX} (hs : X.1.stackTraces = false) {d : Nat} (hd : 2 ≤ d) {n : Nat} {mv rw nx : Nat → Nat} {b : Nat} {bt : List Int32} {kn en dn rf kk th : Int32} {w : List jC} (hR : RM n mv rw nx b bt kn en dn rf kk th w) (hn1 : 2 ≤ n) (hn2 : n ≤ 7) (gm : ∀ i, mv i < 7) (gr : ∀ i, rw i < 7) (gx : ∀ i, nx i < 7) (a : Int32) {kc ks : Nat} : jMet X mX8_house d kc ks [.ref 19, .int a] w (pI (fun _ => True) (fun w' => ∃ (th' : Int32), RM n mv rw nx b bt kn en dn rf kk th' w' ∧ FR b b w w')) := by
  refine jMet_of hs (by decide +kernel) (Nat.le_of_ble_eq_true rfl) (L := [some (.ref 19), some (.int a)]) rfl ?_
  have hdm : 1 ≤ d - 1 := by omega
  have hdp : d - 1 + 1 ≤ d := by omega
  have hfc := fc_7 hn2
  have hfp := fc_pos n
  obtain ⟨h19, h20, h21, h22, hbb, hbl, hb3⟩ := hR
  have hF : FR b b w w := FR.rf
  refine J_aload_n (pc := 0) dX8_house_0 rfl rfl rfl ?_
  refine J_iload_n (pc := 1) dX8_house_1 rfl rfl ?_
  refine J_if_lt (pc := 2) (tgt := 10) dX8_house_2 (by decide) (fun ht1 => ?_) (fun hf2 => ?_)
  · refine J_iconst (pc := 10) (v := nI 1) dX8_house_10 (by decide) ?_
    refine J_goto (pc := 11) (tgt := 15) dX8_house_11 (by decide) ?_
    refine J_callV0 (pc := 15) (M := mX8_house) (as := [.int (nI 1)]) dX8_house_15 fw_X8_isThrown_ fl_X8_105 fm_X8_isThrown_ fe_X8_isThrown_ h19 (by decide) rfl rfl rfl (c_X8_isThrown_ hs (d := d - 1) (Nat.le_trans (by decide) hdm) (w := w) (n := n) (mv := mv) (rw := rw) (nx := nx) (b := b) (bt := bt) (kn := kn) (en := en) (dn := dn) (rf := rf) (kk := kk) (th := th) ⟨h19, h20, h21, h22, hbb, hbl, hb3⟩ hn1 hn2 gm gr gx 1 (by first | assumption | omega) (kc := 0) (ks := 0)) hdp (st := []) (Nat.le_of_ble_eq_true rfl) rfl (kr_I fun v3 w3 hv3 hw3 => ?_) kx_I
    obtain ⟨hR3, hFc3⟩ := hw3
    obtain ⟨h19_3, h20_3, h21_3, h22_3, hbb_3, hbl_3, hb3_3⟩ := hR3
    have hF3 := hF.tr hFc3
    subst hv3
    show J X mX8_house d kc ks 18 [some (.ref 19), some (.int a)] [.int (nI 1)] w3 _
    refine J_if_eqN (pc := 18) (tgt := 25) dX8_house_18 (by decide) (by decide) (fun h => absurd h (by decide)) (fun _ => ?_)
    refine J_iconst (pc := 21) (v := nI 0) dX8_house_21 (by decide) ?_
    refine J_goto (pc := 22) (tgt := 30) dX8_house_22 (by decide) ?_
    exact J_iret (pc := 30) dX8_house_30 rfl ⟨trivial, ⟨nI (tW 1 0), ⟨h19_3, h20_3, h21_3, h22_3, hbb_3, hbl_3, hb3_3⟩, hF3⟩⟩
  · refine J_iload_n (pc := 5) dX8_house_5 rfl rfl ?_
    refine J_iconst (pc := 6) (v := nI 2) dX8_house_6 (by decide) ?_
    refine J_icmp_le (pc := 7) (tgt := 14) dX8_house_7 (by decide) (fun ht4 => ?_) (fun hf5 => ?_)
    · refine J_iconst (pc := 14) (v := nI 0) dX8_house_14 (by decide) ?_
      refine J_callV0 (pc := 15) (M := mX8_house) (as := [.int (nI 0)]) dX8_house_15 fw_X8_isThrown_ fl_X8_105 fm_X8_isThrown_ fe_X8_isThrown_ h19 (by decide) rfl rfl rfl (c_X8_isThrown_ hs (d := d - 1) (Nat.le_trans (by decide) hdm) (w := w) (n := n) (mv := mv) (rw := rw) (nx := nx) (b := b) (bt := bt) (kn := kn) (en := en) (dn := dn) (rf := rf) (kk := kk) (th := th) ⟨h19, h20, h21, h22, hbb, hbl, hb3⟩ hn1 hn2 gm gr gx 0 (by first | assumption | omega) (kc := 0) (ks := 0)) hdp (st := []) (Nat.le_of_ble_eq_true rfl) rfl (kr_I fun v6 w6 hv6 hw6 => ?_) kx_I
      obtain ⟨hR6, hFc6⟩ := hw6
      obtain ⟨h19_6, h20_6, h21_6, h22_6, hbb_6, hbl_6, hb3_6⟩ := hR6
      have hF6 := hF.tr hFc6
      subst hv6
      show J X mX8_house d kc ks 18 [some (.ref 19), some (.int a)] [.int (nI 0)] w6 _
      refine J_if_eqN (pc := 18) (tgt := 25) dX8_house_18 (by decide) (by decide) (fun _ => ?_) (fun h => absurd h (by decide))
      refine J_aload_n (pc := 25) dX8_house_25 rfl rfl rfl ?_
      refine J_iload_n (pc := 26) dX8_house_26 rfl rfl ?_
      refine J_callV0 (pc := 27) (M := mX8_house) (as := [.int a]) dX8_house_27 fw_X8_houseNow fl_X8_230 fm_X8_houseNow fe_X8_houseNow h19_6 (by decide) rfl rfl rfl (c_X8_houseNow hs (d := d - 1) (Nat.le_trans (by decide) hdm) (w := w6) (n := n) (mv := mv) (rw := rw) (nx := nx) (b := b) (bt := bt) (kn := kn) (en := en) (dn := dn) (rf := rf) (kk := kk) (th := nI (tW 0 0)) ⟨h19_6, h20_6, h21_6, h22_6, hbb_6, hbl_6, hb3_6⟩ hn1 hn2 gm gr gx a (kc := 0) (ks := 0)) hdp (st := []) (Nat.le_of_ble_eq_true rfl) rfl (kr_P fun v7 hv7 => ?_) kx_I
      exact J_iret (pc := 30) dX8_house_30 rfl ⟨trivial, ⟨nI (tW 0 0), ⟨h19_6, h20_6, h21_6, h22_6, hbb_6, hbl_6, hb3_6⟩, hF6⟩⟩
    · refine J_iconst (pc := 10) (v := nI 1) dX8_house_10 (by decide) ?_
      refine J_goto (pc := 11) (tgt := 15) dX8_house_11 (by decide) ?_
      refine J_callV0 (pc := 15) (M := mX8_house) (as := [.int (nI 1)]) dX8_house_15 fw_X8_isThrown_ fl_X8_105 fm_X8_isThrown_ fe_X8_isThrown_ h19 (by decide) rfl rfl rfl (c_X8_isThrown_ hs (d := d - 1) (Nat.le_trans (by decide) hdm) (w := w) (n := n) (mv := mv) (rw := rw) (nx := nx) (b := b) (bt := bt) (kn := kn) (en := en) (dn := dn) (rf := rf) (kk := kk) (th := th) ⟨h19, h20, h21, h22, hbb, hbl, hb3⟩ hn1 hn2 gm gr gx 1 (by first | assumption | omega) (kc := 0) (ks := 0)) hdp (st := []) (Nat.le_of_ble_eq_true rfl) rfl (kr_I fun v8 w8 hv8 hw8 => ?_) kx_I
      obtain ⟨hR8, hFc8⟩ := hw8
      obtain ⟨h19_8, h20_8, h21_8, h22_8, hbb_8, hbl_8, hb3_8⟩ := hR8
      have hF8 := hF.tr hFc8
      subst hv8
      show J X mX8_house d kc ks 18 [some (.ref 19), some (.int a)] [.int (nI 1)] w8 _
      refine J_if_eqN (pc := 18) (tgt := 25) dX8_house_18 (by decide) (by decide) (fun h => absurd h (by decide)) (fun _ => ?_)
      refine J_iconst (pc := 21) (v := nI 0) dX8_house_21 (by decide) ?_
      refine J_goto (pc := 22) (tgt := 30) dX8_house_22 (by decide) ?_
      exact J_iret (pc := 30) dX8_house_30 rfl ⟨trivial, ⟨nI (tW 1 0), ⟨h19_8, h20_8, h21_8, h22_8, hbb_8, hbl_8, hb3_8⟩, hF8⟩⟩
set_option maxRecDepth 100000 in
set_option maxHeartbeats 40000000 in
theorem c_X8_knock {X : jX} (hs : X.1.stackTraces = false) {d : Nat} (hd : 0 ≤ d) {n : Nat} {mv rw nx : Nat → Nat} {b : Nat} {bt : List Int32} {kn en dn rf kk th : Int32} {w : List jC} (hR : RM n mv rw nx b bt kn en dn rf kk th w) (hn1 : 2 ≤ n) (hn2 : n ≤ 7) (gm : ∀ i, mv i < 7) (gr : ∀ i, rw i < 7) (gx : ∀ i, nx i < 7) {kc ks : Nat} : jMet X mX8_knock d kc ks [.ref 19] w (pI (fun v => v = (kk + nI 1)) (fun w' => RM n mv rw nx b bt kn en dn rf (kk + nI 1) (nI 0) w' ∧ FR b b w w')) := by
  refine jMet_of hs (by decide +kernel) (Nat.le_of_ble_eq_true rfl) (L := [some (.ref 19)]) rfl ?_
  have hfc := fc_7 hn2
  have hfp := fc_pos n
  obtain ⟨h19, h20, h21, h22, hbb, hbl, hb3⟩ := hR
  have hF : FR b b w w := FR.rf
  refine J_aload_n (pc := 0) dX8_knock_0 rfl rfl rfl ?_
  refine J_iconst (pc := 1) (v := nI 0) dX8_knock_1 (by decide) ?_
  refine J_putW (pc := 2) (k := 10) dX8_knock_2 kC9 (by decide) ff_X8_32 (Or.inl rfl) ⟨rfl, rfl⟩ h19 (by show 10 < 11; decide) (fun w1 hln1 hw1 hne1 => ?_)
  have h19_1 : w1[19]? = some (.inr (9, [.int (nI n), .ref 20, .ref 21, .ref 22, .ref b, .int kn, .int en, .int dn, .int rf, .int kk, .int (nI 0)])) := hw1
  have h20_1 := (hne1 20 (by decide)).trans h20
  have h21_1 := (hne1 21 (by decide)).trans h21
  have h22_1 := (hne1 22 (by decide)).trans h22
  have hb_1 := (hne1 _ (Nat.ne_of_gt (Nat.lt_of_lt_of_le (by decide) hb3))).trans hbb
  have hF1 := hF.st hln1 hne1 (Or.inl (by decide))
  refine J_aload_n (pc := 5) dX8_knock_5 rfl rfl rfl ?_
  refine J_dup (pc := 6) dX8_knock_6 rfl ?_
  refine J_get (pc := 7) (k := 9) dX8_knock_7 kC9 (by decide) ff_X8_227 h19_1 rfl ?_
  refine J_iconst (pc := 10) (v := nI 1) dX8_knock_10 (by decide) ?_
  refine J_iadd (pc := 11) dX8_knock_11 ?_
  refine J_putW (pc := 12) (k := 9) dX8_knock_12 kC9 (by decide) ff_X8_227 (Or.inl rfl) ⟨rfl, rfl⟩ h19_1 (by show 9 < 11; decide) (fun w2 hln2 hw2 hne2 => ?_)
  have h19_2 : w2[19]? = some (.inr (9, [.int (nI n), .ref 20, .ref 21, .ref 22, .ref b, .int kn, .int en, .int dn, .int rf, .int (kk + nI 1), .int (nI 0)])) := hw2
  have h20_2 := (hne2 20 (by decide)).trans h20_1
  have h21_2 := (hne2 21 (by decide)).trans h21_1
  have h22_2 := (hne2 22 (by decide)).trans h22_1
  have hb_2 := (hne2 _ (Nat.ne_of_gt (Nat.lt_of_lt_of_le (by decide) hb3))).trans hb_1
  have hF2 := hF1.st hln2 hne2 (Or.inl (by decide))
  refine J_aload_n (pc := 15) dX8_knock_15 rfl rfl rfl ?_
  refine J_get (pc := 16) (k := 9) dX8_knock_16 kC9 (by decide) ff_X8_227 h19_2 rfl ?_
  exact J_iret (pc := 19) dX8_knock_19 rfl ⟨rfl, ⟨⟨h19_2, h20_2, h21_2, h22_2, hb_2, hbl, hb3⟩, hF2⟩⟩
