section
/-! the reference's group, told exactly -/
set_option maxRecDepth 100000 in
set_option maxHeartbeats 4000000 in
theorem c_X8_goOn_ate {X : jX} (hs : X.1.stackTraces = false) {d : Nat} (hd : 1 ≤ d) {n : Nat} {mv rw nx : Nat → Nat} {b : Nat} {bt : List Int32} {kn en dn rf kk th : Int32} {w : List jC} (hR : RM n mv rw nx b bt kn en dn rf kk th w) (hn1 : 2 ≤ n) (hn2 : n ≤ 7) (gm : ∀ i, mv i < 7) (gr : ∀ i, rw i < 7) (gx : ∀ i, nx i < 7) (num : Nat) (s : Nat) (hy0 : num < 5056) (hy1 : s < 64) (hy2 : BU (fc n) bt) (hy3 : PM n mv) (hy4 : num < fc n) {kc ks : Nat} : jMet X mX8_goOn d kc ks [.ref 19, .int (nI num), .int (nI s)] w (pV (fun w' => ∃ (rw' : Nat → Nat), ∃ (nx' : Nat → Nat), ∃ (bt' : List Int32), RM n mv rw' nx' b bt' kn en dn rf kk th w' ∧ FR b b w w' ∧ (∀ i, rw' i < 7) ∧ (∀ i, nx' i < 7) ∧ BU (fc n) bt' ∧ (∀ k, bitL bt k = true → bitL bt' k = true) ∧ (∀ k, bitL bt' k = true ↔ (bitL bt k = true ∨ goN n mv s num 6 k)))) := by
  refine jMet_of hs (by decide +kernel) (Nat.le_of_ble_eq_true rfl) (L := [some (.ref 19), some (.int (nI num)), some (.int (nI s)), none, none]) rfl ?_
  have hdm : 0 ≤ d - 1 := by omega
  have hdp : d - 1 + 1 ≤ d := by omega
  have hfc := fc_7 hn2
  have hfp := fc_pos n
  obtain ⟨h19, h20, h21, h22, hbb, hbl, hb3⟩ := hR
  have hF : FR b b w w := FR.rf
  refine J_aload_n (pc := 0) dX8_goOn_0 rfl rfl rfl ?_
  refine J_iload_n (pc := 1) dX8_goOn_1 rfl rfl ?_
  refine J_aload_n (pc := 2) dX8_goOn_2 rfl rfl rfl ?_
  refine J_get (pc := 3) (k := 2) dX8_goOn_3 kC9 (by decide) ff_X8_17 h19 rfl ?_
  refine J_callV0 (pc := 6) (M := mX8_goOn) (as := [.int (nI num), .ref 21]) dX8_goOn_6 fw_X8_rowOf fl_X8_78 fm_X8_rowOf fe_X8_rowOf h19 (by decide) rfl rfl rfl (c_X8_rowOf hs (d := d - 1) (Nat.le_trans (by decide) hdm) (w := w) (n := n) (mv := mv) (rw := rw) (nx := nx) (b := b) (bt := bt) (kn := kn) (en := en) (dn := dn) (rf := rf) (kk := kk) (th := th) ⟨h19, h20, h21, h22, hbb, hbl, hb3⟩ hn1 hn2 gm gr gx num (by first | assumption | omega) (kc := 0) (ks := 0)) hdp (st := []) (Nat.le_of_ble_eq_true rfl) rfl (kr_V fun w1 hw1 => ?_) kx_V
  obtain ⟨rw1, hR1, hFc1, hgrw1, hp1_0⟩ := hw1
  obtain ⟨h19_1, h20_1, h21_1, h22_1, hbb_1, hbl_1, hb3_1⟩ := hR1
  have hF1 := hF.tr hFc1
  have hrow := hp1_0
  refine J_iconst (pc := 9) (v := nI 0) dX8_goOn_9 (by decide) ?_
  refine J_istore_n (pc := 10) dX8_goOn_10 rfl (by decide) rfl ?_
  show J X mX8_goOn d kc ks 11 [some (.ref 19), some (.int (nI num)), some (.int (nI s)), some (.int (nI 0)), none] [] w1 _
  have lp11_2 : ∀ (fuel : Nat) (w3 : List jC) (nx_11 : Nat → Nat) (bt_11 : List Int32) (c3 : Nat), (RM n mv rw1 nx_11 b bt_11 kn en dn rf kk th w3) → (FR b b w w3) → (∀ i, nx_11 i < 7) → (c3 ≤ 6) → (BU (fc n) bt_11) → (∀ k, bitL bt k = true → bitL bt_11 k = true) → (∀ k, bitL bt_11 k = true ↔ (bitL bt k = true ∨ goN n mv s num c3 k)) → (6 - c3 < fuel) → J X mX8_goOn d kc ks 11 [some (.ref 19), some (.int (nI num)), some (.int (nI s)), some (.int (nI c3)), none] [] w3 (pV (fun w' => ∃ (rw' : Nat → Nat), ∃ (nx' : Nat → Nat), ∃ (bt' : List Int32), RM n mv rw' nx' b bt' kn en dn rf kk th w' ∧ FR b b w w' ∧ (∀ i, rw' i < 7) ∧ (∀ i, nx' i < 7) ∧ BU (fc n) bt' ∧ (∀ k, bitL bt k = true → bitL bt' k = true) ∧ (∀ k, bitL bt' k = true ↔ (bitL bt k = true ∨ goN n mv s num 6 k)))) := by
    intro fuellp11_2
    induction fuellp11_2 with
    | zero => intros; omega
    | succ fuellp11_2 ihlp11_2 =>
      intro w3 nx_11 bt_11 c3 hR4 hF5 gx6 hv11_0 hv11_1 hv11_2 hv11_3 hf7
      obtain ⟨h19_8, h20_8, h21_8, h22_8, hb_8, hbl_8, hb3_8⟩ := hR4
      refine J_iload_n (pc := 11) dX8_goOn_11 rfl rfl ?_
      refine J_bipush (pc := 12) (v := nI 6) dX8_goOn_12 (by decide) ?_
      refine J_icmp_geN (pc := 14) (tgt := 101) dX8_goOn_14 (by decide) (by omega) (by omega) (fun ht9 => ?_) (fun hf10 => ?_)
      · exact J_vret (pc := 101) dX8_goOn_101 rfl (⟨rw1, nx_11, bt_11, ⟨h19_8, h20_8, h21_8, h22_8, hb_8, hbl_8, hb3_8⟩, hF5, hgrw1, gx6, (by first | assumption | omega), (by first | assumption | omega), (by exact fun k => (hv11_3 k).trans (by rw [show c3 = 6 by omega]))⟩)
      · refine J_iload_n (pc := 17) dX8_goOn_17 rfl rfl ?_
        refine J_iload_n (pc := 18) dX8_goOn_18 rfl rfl ?_
        refine J_ishrN (pc := 19) dX8_goOn_19 (by omega) (by omega) ?_
        refine J_iconst (pc := 20) (v := nI 1) dX8_goOn_20 (by decide) ?_
        have hm11 := Nat.mod_lt (s / 2 ^ c3) (show 0 < 2 ^ 1 by decide)
        have hm12 := Nat.div_le_self s (2 ^ c3)
        refine J_iandN (pc := 21) 1 dX8_goOn_21 (by omega) (by decide) ?_
        refine J_if_neN (pc := 22) (tgt := 28) dX8_goOn_22 (by decide) (by omega) (fun ht13 => ?_) (fun hf14 => ?_)
        · refine J_iconst (pc := 28) (v := nI 0) dX8_goOn_28 (by decide) ?_
          refine J_istore (pc := 29) dX8_goOn_29 (by decide) rfl ?_
          show J X mX8_goOn d kc ks 31 [some (.ref 19), some (.int (nI num)), some (.int (nI s)), some (.int (nI c3)), some (.int (nI 0))] [] w3 _
          have lp31_15 : ∀ (fuel : Nat) (w16 : List jC) (nx_31 : Nat → Nat) (c4 : Nat), (RM n mv rw1 nx_31 b bt_11 kn en dn rf kk th w16) → (FR b b w w16) → (∀ i, nx_31 i < 7) → (∀ p, p < c4 → nx_31 p = mv (c3 * 7 + rw1 p)) → (c4 ≤ n) → (n - c4 < fuel) → J X mX8_goOn d kc ks 31 [some (.ref 19), some (.int (nI num)), some (.int (nI s)), some (.int (nI c3)), some (.int (nI c4))] [] w16 (pV (fun w' => ∃ (rw' : Nat → Nat), ∃ (nx' : Nat → Nat), ∃ (bt' : List Int32), RM n mv rw' nx' b bt' kn en dn rf kk th w' ∧ FR b b w w' ∧ (∀ i, rw' i < 7) ∧ (∀ i, nx' i < 7) ∧ BU (fc n) bt' ∧ (∀ k, bitL bt k = true → bitL bt' k = true) ∧ (∀ k, bitL bt' k = true ↔ (bitL bt k = true ∨ goN n mv s num 6 k)))) := by
            intro fuellp31_15
            induction fuellp31_15 with
            | zero => intros; omega
            | succ fuellp31_15 ihlp31_15 =>
              intro w16 nx_31 c4 hR17 hF18 gx19 hv31_0 hv31_1 hf20
              obtain ⟨h19_21, h20_21, h21_21, h22_21, hb_21, hbl_21, hb3_21⟩ := hR17
              refine J_iload (pc := 31) dX8_goOn_31 rfl ?_
              refine J_aload_n (pc := 33) dX8_goOn_33 rfl rfl rfl ?_
              refine J_get (pc := 34) (k := 0) dX8_goOn_34 kC9 (by decide) ff_X8_7 h19_21 rfl ?_
              refine J_icmp_geN (pc := 37) (tgt := 65) dX8_goOn_37 (by decide) (by omega) (by omega) (fun ht22 => ?_) (fun hf23 => ?_)
              · refine J_aload_n (pc := 65) dX8_goOn_65 rfl rfl rfl ?_
                refine J_aload_n (pc := 66) dX8_goOn_66 rfl rfl rfl ?_
                refine J_get (pc := 67) (k := 3) dX8_goOn_67 kC9 (by decide) ff_X8_20 h19_21 rfl ?_
                refine J_iconst (pc := 70) (v := nI 0) dX8_goOn_70 (by decide) ?_
                refine J_callV0 (pc := 71) (M := mX8_goOn) (as := [.ref 22, .int (nI 0)]) dX8_goOn_71 fw_X8_numberOf fl_X8_45 fm_X8_numberOf fe_X8_numberOf h19_21 (by decide) rfl rfl rfl (c_X8_numberOf_at22 hs (d := d - 1) (Nat.le_trans (by decide) hdm) (w := w16) (n := n) (mv := mv) (rw := rw1) (nx := nx_31) (b := b) (bt := bt_11) (kn := kn) (en := en) (dn := dn) (rf := rf) (kk := kk) (th := th) ⟨h19_21, h20_21, h21_21, h22_21, hb_21, hbl_21, hb3_21⟩ hn1 hn2 gm hgrw1 gx19 0 (by first | assumption | omega) (kc := 0) (ks := 0)) hdp (st := []) (Nat.le_of_ble_eq_true rfl) rfl (kr_P fun v24 hv24 => ?_) kx_I
                subst hv24
                have hq25 := nuF_b nx_31 0 n
                have hnu := goN_nu hn1 hn2 hy3 (show c3 < 6 by omega) (fun p hp => (hv31_0 p (by omega)).trans (by rw [hrow p hp]))
                refine J_istore (pc := 74) dX8_goOn_74 (by decide) rfl ?_
                show J X mX8_goOn d kc ks 76 [some (.ref 19), some (.int (nI num)), some (.int (nI s)), some (.int (nI c3)), some (.int (nI (nuF nx_31 0 n n)))] [] w16 _
                refine J_aload_n (pc := 76) dX8_goOn_76 rfl rfl rfl ?_
                refine J_get (pc := 77) (k := 4) dX8_goOn_77 kC9 (by decide) ff_X8_23 h19_21 rfl ?_
                refine J_iload (pc := 80) dX8_goOn_80 rfl ?_
                refine J_iconst (pc := 82) (v := nI 5) dX8_goOn_82 (by decide) ?_
                refine J_ishrN (pc := 83) dX8_goOn_83 (by omega) (by omega) ?_
                refine J_dup2 (pc := 84) dX8_goOn_84 rfl rfl ?_
                refine J_iald (pc := 85) dX8_goOn_85 hb_21 (by rw [hbl_21]; exact nI_in (by omega) (by decide)) ?_
                refine J_iconst (pc := 86) (v := nI 1) dX8_goOn_86 (by decide) ?_
                refine J_iload (pc := 87) dX8_goOn_87 rfl ?_
                refine J_bipush (pc := 89) (v := nI 31) dX8_goOn_89 (by decide) ?_
                have hm26 := Nat.mod_lt (nuF nx_31 0 n n) (show 0 < 2 ^ 5 by decide)
                refine J_iandN (pc := 91) 5 dX8_goOn_91 (by omega) (by decide) ?_
                refine J_ishl (pc := 92) dX8_goOn_92 ?_
                refine J_ior (pc := 93) dX8_goOn_93 ?_
                refine J_iastW (pc := 94) dX8_goOn_94 hb_21 (by rw [hbl_21]; exact nI_in (by omega) (by decide)) (fun w27 hln27 hc27 hne27 => ?_)
                have hz27 : (bt_11.set (nI ((nuF nx_31 0 n n) / 2 ^ 5)).toNatClampNeg ((bt_11.getD (nI ((nuF nx_31 0 n n) / 2 ^ 5)).toNatClampNeg 0) ||| (nI 1 <<< (nI ((nuF nx_31 0 n n) % 2 ^ 5) &&& 31)))).length = 158 := by rw [List.length_set]; exact hbl_21
                have h19_27 := (hne27 19 (Nat.ne_of_lt (Nat.lt_of_lt_of_le (by decide) hb3_21))).trans h19_21
                have h20_27 := (hne27 20 (Nat.ne_of_lt (Nat.lt_of_lt_of_le (by decide) hb3_21))).trans h20_21
                have h21_27 := (hne27 21 (Nat.ne_of_lt (Nat.lt_of_lt_of_le (by decide) hb3_21))).trans h21_21
                have h22_27 := (hne27 22 (Nat.ne_of_lt (Nat.lt_of_lt_of_le (by decide) hb3_21))).trans h22_21
                have hF27 := hF18.st hln27 hne27 (Or.inr (Or.inl rfl))
                refine J_iincN (pc := 95) (b := 1) dX8_goOn_95 rfl (by decide) (by decide) rfl ?_
                show J X mX8_goOn d kc ks 98 [some (.ref 19), some (.int (nI num)), some (.int (nI s)), some (.int (nI (c3 + 1))), some (.int (nI (nuF nx_31 0 n n)))] [] w27 _
                refine J_goto (pc := 98) (tgt := 11) dX8_goOn_98 (by decide) ?_
                exact J_sub (L' := [some (.ref 19), some (.int (nI num)), some (.int (nI s)), some (.int (nI (c3 + 1))), none]) ⟨rfl, ⟨rfl, ⟨rfl, ⟨rfl, trivial⟩⟩⟩⟩ (ihlp11_2 w27 nx_31 (bt_11.set (nI ((nuF nx_31 0 n n) / 2 ^ 5)).toNatClampNeg ((bt_11.getD (nI ((nuF nx_31 0 n n) / 2 ^ 5)).toNatClampNeg 0) ||| (nI 1 <<< (nI ((nuF nx_31 0 n n) % 2 ^ 5) &&& 31)))) (c3 + 1) ⟨h19_27, h20_27, h21_27, h22_27, hc27, hz27, hb3_21⟩ hF27 gx19 (by first | assumption | omega) (by first | assumption | exact hv11_1.set (by omega) (by omega) (by assumption)) (by first | assumption | exact fun k hk => bitL_keep (by omega) (by assumption) (hv11_2 k hk)) (by first | exact goN_n hv11_3 (by assumption) | exact goN_s hv11_3 (by assumption) (by assumption) (by omega) hnu) (by omega))
              · refine J_aload_n (pc := 40) dX8_goOn_40 rfl rfl rfl ?_
                refine J_get (pc := 41) (k := 3) dX8_goOn_41 kC9 (by decide) ff_X8_20 h19_21 rfl ?_
                refine J_iload (pc := 44) dX8_goOn_44 rfl ?_
                refine J_aload_n (pc := 46) dX8_goOn_46 rfl rfl rfl ?_
                refine J_iload_n (pc := 47) dX8_goOn_47 rfl rfl ?_
                refine J_aload_n (pc := 48) dX8_goOn_48 rfl rfl rfl ?_
                refine J_get (pc := 49) (k := 2) dX8_goOn_49 kC9 (by decide) ff_X8_17 h19_21 rfl ?_
                refine J_iload (pc := 52) dX8_goOn_52 rfl ?_
                refine J_ialdF (pc := 54) dX8_goOn_54 h21_21 (by omega) (by decide) ?_
                have hq28 := hgrw1 c4
                refine J_callV0 (pc := 55) (M := mX8_goOn) (as := [.int (nI c3), .int (nI (rw1 c4))]) dX8_goOn_55 fw_X8_at fl_X8_82 fm_X8_at fe_X8_at h19_21 (by decide) rfl rfl rfl (c_X8_at hs (d := d - 1) (Nat.le_trans (by decide) hdm) (w := w16) (n := n) (mv := mv) (rw := rw1) (nx := nx_31) (b := b) (bt := bt_11) (kn := kn) (en := en) (dn := dn) (rf := rf) (kk := kk) (th := th) ⟨h19_21, h20_21, h21_21, h22_21, hb_21, hbl_21, hb3_21⟩ hn1 hn2 gm hgrw1 gx19 c3 (rw1 c4) (by first | assumption | omega) (by first | assumption | omega) (kc := 0) (ks := 0)) hdp (st := [.int (nI c4), .ref 22]) (Nat.le_of_ble_eq_true rfl) rfl (kr_P fun v29 hv29 => ?_) kx_I
                subst hv29
                have hq30 := gm (c3 * 7 + (rw1 c4))
                refine J_iastF (pc := 58) dX8_goOn_58 h22_21 (by omega) (by decide) (fun w31 hln31 hc31 hne31 => ?_)
                have hg31 : ∀ i, (up nx_31 c4 (mv (c3 * 7 + (rw1 c4)))) i < 7 := up_b gx19 (by omega)
                have h19_31 := (hne31 19 (by decide)).trans h19_21
                have h20_31 := (hne31 20 (by decide)).trans h20_21
                have h21_31 := (hne31 21 (by decide)).trans h21_21
                have hb_31 := (hne31 _ (Nat.ne_of_gt (Nat.lt_of_lt_of_le (by decide) hb3_21))).trans hb_21
                have hF31 := hF18.st hln31 hne31 (Or.inl (by decide))
                refine J_iincN (pc := 59) (b := 1) dX8_goOn_59 rfl (by decide) (by decide) rfl ?_
                show J X mX8_goOn d kc ks 62 [some (.ref 19), some (.int (nI num)), some (.int (nI s)), some (.int (nI c3)), some (.int (nI (c4 + 1)))] [] w31 _
                refine J_goto (pc := 62) (tgt := 31) dX8_goOn_62 (by decide) ?_
                exact J_sub (L' := [some (.ref 19), some (.int (nI num)), some (.int (nI s)), some (.int (nI c3)), some (.int (nI (c4 + 1)))]) ⟨rfl, ⟨rfl, ⟨rfl, ⟨rfl, ⟨rfl, trivial⟩⟩⟩⟩⟩ (ihlp31_15 w31 (up nx_31 c4 (mv (c3 * 7 + (rw1 c4)))) (c4 + 1) ⟨h19_31, h20_31, h21_31, hc31, hb_31, hbl_21, hb3_21⟩ hF31 hg31 (by intro p hp; by_cases e : p = c4; (subst e; exact up_s _ _ _); (rw [up_n e]; exact hv31_0 p (by omega))) (by first | assumption | omega) (by omega))
          exact J_sub (L' := [some (.ref 19), some (.int (nI num)), some (.int (nI s)), some (.int (nI c3)), some (.int (nI 0))]) ⟨rfl, ⟨rfl, ⟨rfl, ⟨rfl, ⟨rfl, trivial⟩⟩⟩⟩⟩ (lp31_15 _ w3 nx_11 0 ⟨h19_8, h20_8, h21_8, h22_8, hb_8, hbl_8, hb3_8⟩ hF5 gx6 (by intro p hp; omega) (by first | assumption | omega) (Nat.lt_succ_self _))
        · refine J_goto (pc := 25) (tgt := 95) dX8_goOn_25 (by decide) ?_
          refine J_iincN (pc := 95) (b := 1) dX8_goOn_95 rfl (by decide) (by decide) rfl ?_
          show J X mX8_goOn d kc ks 98 [some (.ref 19), some (.int (nI num)), some (.int (nI s)), some (.int (nI (c3 + 1))), none] [] w3 _
          refine J_goto (pc := 98) (tgt := 11) dX8_goOn_98 (by decide) ?_
          exact J_sub (L' := [some (.ref 19), some (.int (nI num)), some (.int (nI s)), some (.int (nI (c3 + 1))), none]) ⟨rfl, ⟨rfl, ⟨rfl, ⟨rfl, trivial⟩⟩⟩⟩ (ihlp11_2 w3 nx_11 bt_11 (c3 + 1) ⟨h19_8, h20_8, h21_8, h22_8, hb_8, hbl_8, hb3_8⟩ hF5 gx6 (by first | assumption | omega) (by first | assumption | exact hv11_1.set (by omega) (by omega) (by assumption)) (by first | assumption | exact fun k hk => bitL_keep (by omega) (by assumption) (hv11_2 k hk)) (by first | exact goN_n hv11_3 (by assumption) | exact goN_s hv11_3 (by assumption) (by assumption) (by omega) hnu) (by omega))
  exact J_sub (L' := [some (.ref 19), some (.int (nI num)), some (.int (nI s)), some (.int (nI 0)), none]) ⟨rfl, ⟨rfl, ⟨rfl, ⟨rfl, trivial⟩⟩⟩⟩ (lp11_2 _ w1 nx bt 0 ⟨h19_1, h20_1, h21_1, h22_1, hbb_1, hbl_1, hb3_1⟩ hF1 gx (by first | assumption | omega) (by assumption) (by exact fun _ h => h) (by exact goN_0) (Nat.lt_succ_self _))
set_option maxRecDepth 100000 in
set_option maxHeartbeats 4000000 in
theorem c_X8_close_ate {X : jX} (hs : X.1.stackTraces = false) {d : Nat} (hd : 2 ≤ d) {n : Nat} {mv rw nx : Nat → Nat} {b : Nat} {bt : List Int32} {kn en dn rf kk th : Int32} {w : List jC} (hR : RM n mv rw nx b bt kn en dn rf kk th w) (hn1 : 2 ≤ n) (hn2 : n ≤ 7) (gm : ∀ i, mv i < 7) (gr : ∀ i, rw i < 7) (gx : ∀ i, nx i < 7) (s : Nat) (hy0 : s < 64) (hy1 : PM n mv) {kc ks : Nat} (hkc : 2 ≤ kc) (hks : 316 ≤ ks) : jMet X mX8_close d kc ks [.ref 19, .int (nI s)] w (pV (fun w' => ∃ (rw' : Nat → Nat), ∃ (nx' : Nat → Nat), ∃ (b' : Nat), ∃ (bt' : List Int32), RM n mv rw' nx' b' bt' kn en dn rf kk th w' ∧ FR b b' w w' ∧ (∀ i, rw' i < 7) ∧ (∀ i, nx' i < 7) ∧ BX n mv s bt')) := by
  refine jMet_of hs (by decide +kernel) (Nat.le_of_ble_eq_true rfl) (L := [some (.ref 19), some (.int (nI s)), none, none, none, none, none]) rfl ?_
  have hdm : 1 ≤ d - 1 := by omega
  have hdp : d - 1 + 1 ≤ d := by omega
  have hfc := fc_7 hn2
  have hfp := fc_pos n
  obtain ⟨h19, h20, h21, h22, hbb, hbl, hb3⟩ := hR
  have hF : FR b b w w := FR.rf
  refine J_sipush (pc := 0) (v := nI 158) dX8_close_0 (by decide) ?_
  refine J_newW (pc := 3) (M := mX8_close) (N := 158) dX8_close_3 fa_int rfl (by omega) (by omega) (by omega) (fun a3 w1 ha1 hln1 hc1 hne1 => ?_)
  have q191 := gl h19
  have q201 := gl h20
  have q211 := gl h21
  have q221 := gl h22
  have qb1 := gl hbb
  have qF1 := hF.1
  have h19_1 := (hne1 19 (by omega)).trans h19
  have h20_1 := (hne1 20 (by omega)).trans h20
  have h21_1 := (hne1 21 (by omega)).trans h21
  have h22_1 := (hne1 22 (by omega)).trans h22
  have hb_1 := (hne1 _ (by omega)).trans hbb
  have hF1 := hF.pu ha1 hln1 hne1
  refine J_astore_n (pc := 5) dX8_close_5 rfl (by decide) rfl rfl ?_
  show J X mX8_close d (kc - 1) (ks - 158) 6 [some (.ref 19), some (.int (nI s)), some (.ref a3), none, none, none, none] [] w1 _
  refine J_aload_n (pc := 6) dX8_close_6 rfl rfl rfl ?_
  refine J_sipush (pc := 7) (v := nI 158) dX8_close_7 (by decide) ?_
  refine J_newW (pc := 10) (M := mX8_close) (N := 158) dX8_close_10 fa_int rfl (by omega) (by omega) (by omega) (fun a10 w2 ha2 hln2 hc2 hne2 => ?_)
  have q192 := gl h19_1
  have q202 := gl h20_1
  have q212 := gl h21_1
  have q222 := gl h22_1
  have qb2 := gl hb_1
  have qa32 := gl hc1
  have qF2 := hF1.1
  have h19_2 := (hne2 19 (by omega)).trans h19_1
  have h20_2 := (hne2 20 (by omega)).trans h20_1
  have h21_2 := (hne2 21 (by omega)).trans h21_1
  have h22_2 := (hne2 22 (by omega)).trans h22_1
  have hb_2 := (hne2 _ (by omega)).trans hb_1
  have hla3_2 := (hne2 a3 (by omega)).trans hc1
  have hF2 := hF1.pu ha2 hln2 hne2
  refine J_putW (pc := 12) (k := 4) dX8_close_12 kC9 (by decide) ff_X8_23 (Or.inl rfl) rfl h19_2 (by show 4 < 11; decide) (fun w3 hln3 hw3 hne3 => ?_)
  have h19_3 : w3[19]? = some (.inr (9, [.int (nI n), .ref 20, .ref 21, .ref 22, .ref a10, .int kn, .int en, .int dn, .int rf, .int kk, .int th])) := hw3
  have h20_3 := (hne3 20 (by omega)).trans h20_2
  have h21_3 := (hne3 21 (by omega)).trans h21_2
  have h22_3 := (hne3 22 (by omega)).trans h22_2
  have hb_3 := (hne3 a10 (by omega)).trans hc2
  have hla3_3 := (hne3 a3 (by omega)).trans hla3_2
  have hF3 := (hF2.st hln3 hne3 (Or.inl (by decide))).nb (b'' := a10) (by omega)
  have hb3_3 : 23 ≤ a10 := by omega
  refine J_aload_n (pc := 15) dX8_close_15 rfl rfl rfl ?_
  refine J_get (pc := 16) (k := 4) dX8_close_16 kC9 (by decide) ff_X8_23 h19_3 rfl ?_
  refine J_iconst (pc := 19) (v := nI 0) dX8_close_19 (by decide) ?_
  refine J_iconst (pc := 20) (v := nI 1) dX8_close_20 (by decide) ?_
  refine J_iastW (pc := 21) dX8_close_21 hb_3 (by rw [(List.length_replicate : (List.replicate 158 (0 : Int32)).length = 158)]; exact nI_in (by omega) (by decide)) (fun w4 hln4 hc4 hne4 => ?_)
  have hz4 : ((List.replicate 158 0).set (nI 0).toNatClampNeg (nI 1)).length = 158 := by rw [List.length_set]; exact (List.length_replicate : (List.replicate 158 (0 : Int32)).length = 158)
  have h19_4 := (hne4 19 (Nat.ne_of_lt (Nat.lt_of_lt_of_le (by decide) hb3_3))).trans h19_3
  have h20_4 := (hne4 20 (Nat.ne_of_lt (Nat.lt_of_lt_of_le (by decide) hb3_3))).trans h20_3
  have h21_4 := (hne4 21 (Nat.ne_of_lt (Nat.lt_of_lt_of_le (by decide) hb3_3))).trans h21_3
  have h22_4 := (hne4 22 (Nat.ne_of_lt (Nat.lt_of_lt_of_le (by decide) hb3_3))).trans h22_3
  have hla3_4 := (hne4 a3 (by omega)).trans hla3_3
  have hF4 := hF3.st hln4 hne4 (Or.inr (Or.inl rfl))
  refine J_aload_n (pc := 22) dX8_close_22 rfl rfl rfl ?_
  refine J_callV0 (pc := 23) (M := mX8_close) (as := []) dX8_close_23 fw_X8_all fl_X8_65 fm_X8_all fe_X8_all h19_4 (by decide) rfl rfl rfl (c_X8_all hs (d := d - 1) (Nat.le_trans (by decide) hdm) (w := w4) (n := n) (mv := mv) (rw := rw) (nx := nx) (b := a10) (bt := ((List.replicate 158 0).set (nI 0).toNatClampNeg (nI 1))) (kn := kn) (en := en) (dn := dn) (rf := rf) (kk := kk) (th := th) ⟨h19_4, h20_4, h21_4, h22_4, hc4, hz4, hb3_3⟩ hn1 hn2 gm gr gx  (kc := 0) (ks := 0)) hdp (st := []) (Nat.le_of_ble_eq_true rfl) rfl (kr_P fun v5 hv5 => ?_) kx_I
  subst hv5
  refine J_bipush (pc := 26) (v := nI 31) dX8_close_26 (by decide) ?_
  refine J_iaddN (pc := 28) dX8_close_28 ?_
  refine J_iconst (pc := 29) (v := nI 5) dX8_close_29 (by decide) ?_
  refine J_ishrN (pc := 30) dX8_close_30 (by omega) (by omega) ?_
  refine J_istore_n (pc := 31) dX8_close_31 rfl (by decide) rfl ?_
  show J X mX8_close d (kc - 1 - 1) (ks - 158 - 158) 32 [some (.ref 19), some (.int (nI s)), some (.ref a3), some (.int (nI ((fc n + 31) / 2 ^ 5))), none, none, none] [] w4 _
  refine J_iconst (pc := 32) (v := nI 1) dX8_close_32 (by decide) ?_
  refine J_istore (pc := 33) dX8_close_33 (by decide) rfl ?_
  show J X mX8_close d (kc - 1 - 1) (ks - 158 - 158) 35 [some (.ref 19), some (.int (nI s)), some (.ref a3), some (.int (nI ((fc n + 31) / 2 ^ 5))), some (.int (nI 1)), none, none] [] w4 _
  have lp35_6 : ∀ (fuel : Nat) (w7 : List jC) (rw_35 : Nat → Nat) (nx_35 : Nat → Nat) (bt_35 : List Int32) (g_35 : List Int32) (u4 : Nat), (RM n mv rw_35 nx_35 a10 bt_35 kn en dn rf kk th w7) → (FR b a10 w w7) → (∀ i, rw_35 i < 7) → (∀ i, nx_35 i < 7) → (w7[a3]? = some (.inl (0, g_35))) → (g_35.length = 158) → (u4 < 2) → (∀ k, bitL bt_35 k = true → k < fc n ∧ Gg n (gS (mW n mv) s 6) (XM n k)) → (bitL bt_35 0 = true) → (∀ k, bitL g_35 k = true → bitL bt_35 k = true ∧ ∀ j, j < 6 → s.testBit j = true → bitL bt_35 (nu n (cM n (XM n k) (mW n mv j))) = true) → (u4 = 0 → ∀ k, bitL bt_35 k = true → bitL g_35 k = true) → (2 * cz g_35 + u4 < fuel) → J X mX8_close d (kc - 1 - 1) (ks - 158 - 158) 35 [some (.ref 19), some (.int (nI s)), some (.ref a3), some (.int (nI ((fc n + 31) / 2 ^ 5))), some (.int (nI u4)), none, none] [] w7 (pV (fun w' => ∃ (rw' : Nat → Nat), ∃ (nx' : Nat → Nat), ∃ (b' : Nat), ∃ (bt' : List Int32), RM n mv rw' nx' b' bt' kn en dn rf kk th w' ∧ FR b b' w w' ∧ (∀ i, rw' i < 7) ∧ (∀ i, nx' i < 7) ∧ BX n mv s bt')) := by
    intro fuellp35_6
    induction fuellp35_6 with
    | zero => intros; omega
    | succ fuellp35_6 ihlp35_6 =>
      intro w7 rw_35 nx_35 bt_35 g_35 u4 hR8 hF9 gr10 gx11 hl12 hz13 hv35_0 hv35_1 hv35_2 hv35_3 hv35_4 hf14
      obtain ⟨h19_15, h20_15, h21_15, h22_15, hb_15, hbl_15, hb3_15⟩ := hR8
      refine J_iload (pc := 35) dX8_close_35 rfl ?_
      refine J_if_eqN (pc := 37) (tgt := 127) dX8_close_37 (by decide) (by omega) (fun ht16 => ?_) (fun hf17 => ?_)
      · exact J_vret (pc := 127) dX8_close_127 rfl (⟨rw_35, nx_35, a10, bt_35, ⟨h19_15, h20_15, h21_15, h22_15, hb_15, hbl_15, hb3_15⟩, hF9, gr10, gx11, (by exact CX_end hn1 hn2 hy1 hv35_1 hv35_2 hv35_3 (hv35_4 (by omega)))⟩)
      · refine J_iconst (pc := 40) (v := nI 0) dX8_close_40 (by decide) ?_
        refine J_istore (pc := 41) dX8_close_41 (by decide) rfl ?_
        show J X mX8_close d (kc - 1 - 1) (ks - 158 - 158) 43 [some (.ref 19), some (.int (nI s)), some (.ref a3), some (.int (nI ((fc n + 31) / 2 ^ 5))), some (.int (nI 0)), none, none] [] w7 _
        refine J_iconst (pc := 43) (v := nI 0) dX8_close_43 (by decide) ?_
        refine J_istore (pc := 44) dX8_close_44 (by decide) rfl ?_
        show J X mX8_close d (kc - 1 - 1) (ks - 158 - 158) 46 [some (.ref 19), some (.int (nI s)), some (.ref a3), some (.int (nI ((fc n + 31) / 2 ^ 5))), some (.int (nI 0)), some (.int (nI 0)), none] [] w7 _
        have lp46_18 : ∀ (fuel : Nat) (w19 : List jC) (rw_46 : Nat → Nat) (nx_46 : Nat → Nat) (bt_46 : List Int32) (g_46 : List Int32) (v4 : Nat) (c5 : Nat), (RM n mv rw_46 nx_46 a10 bt_46 kn en dn rf kk th w19) → (FR b a10 w w19) → (∀ i, rw_46 i < 7) → (∀ i, nx_46 i < 7) → (w19[a3]? = some (.inl (0, g_46))) → (g_46.length = 158) → (v4 < 2) → (∀ k, bitL bt_46 k = true → k < fc n ∧ Gg n (gS (mW n mv) s 6) (XM n k)) → (bitL bt_46 0 = true) → (cz g_46 ≤ cz g_35) → (v4 = 1 → cz g_46 < cz g_35) → (∀ k, bitL g_46 k = true → bitL bt_46 k = true ∧ ∀ j, j < 6 → s.testBit j = true → bitL bt_46 (nu n (cM n (XM n k) (mW n mv j))) = true) → (v4 = 0 → ∀ k, k < 32 * c5 → bitL bt_46 k = true → bitL g_46 k = true) → (c5 ≤ (fc n + 31) / 2 ^ 5) → (159 - c5 < fuel) → J X mX8_close d (kc - 1 - 1) (ks - 158 - 158) 46 [some (.ref 19), some (.int (nI s)), some (.ref a3), some (.int (nI ((fc n + 31) / 2 ^ 5))), some (.int (nI v4)), some (.int (nI c5)), none] [] w19 (pV (fun w' => ∃ (rw' : Nat → Nat), ∃ (nx' : Nat → Nat), ∃ (b' : Nat), ∃ (bt' : List Int32), RM n mv rw' nx' b' bt' kn en dn rf kk th w' ∧ FR b b' w w' ∧ (∀ i, rw' i < 7) ∧ (∀ i, nx' i < 7) ∧ BX n mv s bt')) := by
          intro fuellp46_18
          induction fuellp46_18 with
          | zero => intros; omega
          | succ fuellp46_18 ihlp46_18 =>
            intro w19 rw_46 nx_46 bt_46 g_46 v4 c5 hR20 hF21 gr22 gx23 hl24 hz25 hv46_0 hv46_1 hv46_2 hv46_3 hv46_4 hv46_5 hv46_6 hv46_7 hf26
            obtain ⟨h19_27, h20_27, h21_27, h22_27, hb_27, hbl_27, hb3_27⟩ := hR20
            refine J_iload (pc := 46) dX8_close_46 rfl ?_
            refine J_iload_n (pc := 48) dX8_close_48 rfl rfl ?_
            refine J_icmp_geN (pc := 49) (tgt := 124) dX8_close_49 (by decide) (by omega) (by omega) (fun ht28 => ?_) (fun hf29 => ?_)
            · refine J_goto (pc := 124) (tgt := 35) dX8_close_124 (by decide) ?_
              exact J_sub (L' := [some (.ref 19), some (.int (nI s)), some (.ref a3), some (.int (nI ((fc n + 31) / 2 ^ 5))), some (.int (nI v4)), none, none]) ⟨rfl, ⟨rfl, ⟨rfl, ⟨rfl, ⟨rfl, trivial⟩⟩⟩⟩⟩ (ihlp35_6 w19 rw_46 nx_46 bt_46 g_46 v4 ⟨h19_27, h20_27, h21_27, h22_27, hb_27, hbl_27, hb3_27⟩ hF21 gr22 gx23 hl24 hz25 (by first | assumption | omega) (by assumption) (by assumption) (by assumption) (by exact fun h k hk => hv46_6 h k (by have := (hv46_1 k hk).1; omega) hk) (by omega))
            · have lp52_30 : ∀ (fuel : Nat) (w31 : List jC) (rw_52 : Nat → Nat) (nx_52 : Nat → Nat) (bt_52 : List Int32) (g_52 : List Int32) (x4 : Nat), (RM n mv rw_52 nx_52 a10 bt_52 kn en dn rf kk th w31) → (FR b a10 w w31) → (∀ i, rw_52 i < 7) → (∀ i, nx_52 i < 7) → (w31[a3]? = some (.inl (0, g_52))) → (g_52.length = 158) → (x4 < 2) → (∀ k, bitL bt_52 k = true → k < fc n ∧ Gg n (gS (mW n mv) s 6) (XM n k)) → (bitL bt_52 0 = true) → (cz g_52 ≤ cz g_35) → (x4 = 1 → cz g_52 < cz g_35) → (∀ k, bitL g_52 k = true → bitL bt_52 k = true ∧ ∀ j, j < 6 → s.testBit j = true → bitL bt_52 (nu n (cM n (XM n k) (mW n mv j))) = true) → (x4 = 0 → ∀ k, k < 32 * c5 → bitL bt_52 k = true → bitL g_52 k = true) → (cz g_52 < fuel) → J X mX8_close d (kc - 1 - 1) (ks - 158 - 158) 52 [some (.ref 19), some (.int (nI s)), some (.ref a3), some (.int (nI ((fc n + 31) / 2 ^ 5))), some (.int (nI x4)), some (.int (nI c5)), none] [] w31 (pV (fun w' => ∃ (rw' : Nat → Nat), ∃ (nx' : Nat → Nat), ∃ (b' : Nat), ∃ (bt' : List Int32), RM n mv rw' nx' b' bt' kn en dn rf kk th w' ∧ FR b b' w w' ∧ (∀ i, rw' i < 7) ∧ (∀ i, nx' i < 7) ∧ BX n mv s bt')) := by
                intro fuellp52_30
                induction fuellp52_30 with
                | zero => intros; omega
                | succ fuellp52_30 ihlp52_30 =>
                  intro w31 rw_52 nx_52 bt_52 g_52 x4 hR32 hF33 gr34 gx35 hl36 hz37 hv52_0 hv52_1 hv52_2 hv52_3 hv52_4 hv52_5 hv52_6 hf38
                  obtain ⟨h19_39, h20_39, h21_39, h22_39, hb_39, hbl_39, hb3_39⟩ := hR32
                  refine J_aload_n (pc := 52) dX8_close_52 rfl rfl rfl ?_
                  refine J_get (pc := 53) (k := 4) dX8_close_53 kC9 (by decide) ff_X8_23 h19_39 rfl ?_
                  refine J_iload (pc := 56) dX8_close_56 rfl ?_
                  refine J_iald (pc := 58) dX8_close_58 hb_39 (by rw [hbl_39]; exact nI_in (by omega) (by decide)) ?_
                  refine J_aload_n (pc := 59) dX8_close_59 rfl rfl rfl ?_
                  refine J_iload (pc := 60) dX8_close_60 rfl ?_
                  refine J_iald (pc := 62) dX8_close_62 hl36 (by rw [hz37]; exact nI_in (by omega) (by decide)) ?_
                  refine J_iconst (pc := 63) (v := (-1)) dX8_close_63 (by decide) ?_
                  refine J_ixor (pc := 64) dX8_close_64 ?_
                  refine J_iand (pc := 65) dX8_close_65 ?_
                  refine J_if_eq (pc := 66) (tgt := 118) dX8_close_66 (by decide) (fun ht40 => ?_) (fun hf41 => ?_)
                  · refine J_iincN (pc := 118) (b := 1) dX8_close_118 rfl (by decide) (by decide) rfl ?_
                    show J X mX8_close d (kc - 1 - 1) (ks - 158 - 158) 121 [some (.ref 19), some (.int (nI s)), some (.ref a3), some (.int (nI ((fc n + 31) / 2 ^ 5))), some (.int (nI x4)), some (.int (nI (c5 + 1))), none] [] w31 _
                    refine J_goto (pc := 121) (tgt := 46) dX8_close_121 (by decide) ?_
                    exact J_sub (L' := [some (.ref 19), some (.int (nI s)), some (.ref a3), some (.int (nI ((fc n + 31) / 2 ^ 5))), some (.int (nI x4)), some (.int (nI (c5 + 1))), none]) ⟨rfl, ⟨rfl, ⟨rfl, ⟨rfl, ⟨rfl, ⟨rfl, trivial⟩⟩⟩⟩⟩⟩ (ihlp46_18 w31 rw_52 nx_52 bt_52 g_52 x4 (c5 + 1) ⟨h19_39, h20_39, h21_39, h22_39, hb_39, hbl_39, hb3_39⟩ hF33 gr34 gx35 hl36 hz37 (by first | assumption | omega) (by assumption) (by assumption) (by first | assumption | omega) (by first | assumption | omega) (by assumption) (by exact CX_w hv52_6 (by assumption)) (by first | assumption | omega) (by omega))
                  · refine J_aload_n (pc := 69) dX8_close_69 rfl rfl rfl ?_
                    refine J_get (pc := 70) (k := 4) dX8_close_70 kC9 (by decide) ff_X8_23 h19_39 rfl ?_
                    refine J_iload (pc := 73) dX8_close_73 rfl ?_
                    refine J_iald (pc := 75) dX8_close_75 hb_39 (by rw [hbl_39]; exact nI_in (by omega) (by decide)) ?_
                    refine J_aload_n (pc := 76) dX8_close_76 rfl rfl rfl ?_
                    refine J_iload (pc := 77) dX8_close_77 rfl ?_
                    refine J_iald (pc := 79) dX8_close_79 hl36 (by rw [hz37]; exact nI_in (by omega) (by decide)) ?_
                    refine J_iconst (pc := 80) (v := (-1)) dX8_close_80 (by decide) ?_
                    refine J_ixor (pc := 81) dX8_close_81 ?_
                    refine J_iand (pc := 82) dX8_close_82 ?_
                    refine J_callS0 (pc := 83) (M := mX8_close) (as := [.int ((bt_52.getD (nI c5).toNatClampNeg 0) &&& ((g_52.getD (nI c5).toNatClampNeg 0) ^^^ (-1)))]) dX8_close_83 fw_J6_numberOfTrailingZeros_0f7a4 fl_X8_69 fs_J6_numberOfTrailingZeros_0f7a4 rfl (c_J6_numberOfTrailingZeros_0f7a4 hs (d := d - 1) (Nat.le_trans (by decide) hdm) (w := w31) ((bt_52.getD (nI c5).toNatClampNeg 0) &&& ((g_52.getD (nI c5).toNatClampNeg 0) ^^^ (-1))) (by first | assumption | omega) (kc := 0) (ks := 0)) hdp (st := []) (Nat.le_of_ble_eq_true rfl) rfl (kr_P fun v42 hv42 => ?_) kx_I
                    obtain ⟨k42, rfl, hk42⟩ := hv42
                    obtain ⟨hk1, hk2⟩ := hk42
                    have hab := and_bits (w := c5) (by omega) hk1 hk2
                    have hkb := hab.1
                    have hkf := hv52_1 _ hab.1
                    have hcz := cz_set2 (w := c5) (by omega) (by assumption) hk1 hab.2
                    refine J_istore (pc := 86) dX8_close_86 (by decide) rfl ?_
                    show J X mX8_close d (kc - 1 - 1) (ks - 158 - 158) 88 [some (.ref 19), some (.int (nI s)), some (.ref a3), some (.int (nI ((fc n + 31) / 2 ^ 5))), some (.int (nI x4)), some (.int (nI c5)), some (.int (nI k42))] [] w31 _
                    refine J_aload_n (pc := 88) dX8_close_88 rfl rfl rfl ?_
                    refine J_iload (pc := 89) dX8_close_89 rfl ?_
                    refine J_dup2 (pc := 91) dX8_close_91 rfl rfl ?_
                    refine J_iald (pc := 92) dX8_close_92 hl36 (by rw [hz37]; exact nI_in (by omega) (by decide)) ?_
                    refine J_iconst (pc := 93) (v := nI 1) dX8_close_93 (by decide) ?_
                    refine J_iload (pc := 94) dX8_close_94 rfl ?_
                    refine J_ishl (pc := 96) dX8_close_96 ?_
                    refine J_ior (pc := 97) dX8_close_97 ?_
                    refine J_iastW (pc := 98) dX8_close_98 hl36 (by rw [hz37]; exact nI_in (by omega) (by decide)) (fun w43 hln43 hc43 hne43 => ?_)
                    have hz43 : (g_52.set (nI c5).toNatClampNeg ((g_52.getD (nI c5).toNatClampNeg 0) ||| (nI 1 <<< (nI k42 &&& 31)))).length = 158 := by rw [List.length_set]; exact hz37
                    have h19_43 := (hne43 19 (by omega)).trans h19_39
                    have h20_43 := (hne43 20 (by omega)).trans h20_39
                    have h21_43 := (hne43 21 (by omega)).trans h21_39
                    have h22_43 := (hne43 22 (by omega)).trans h22_39
                    have hb_43 := (hne43 _ (by omega)).trans hb_39
                    have hF43 := hF33.st hln43 hne43 (Or.inr (Or.inr (by omega)))
                    refine J_aload_n (pc := 99) dX8_close_99 rfl rfl rfl ?_
                    refine J_bipush (pc := 100) (v := nI 32) dX8_close_100 (by decide) ?_
                    refine J_iload (pc := 102) dX8_close_102 rfl ?_
                    refine J_imulN (pc := 104) dX8_close_104 ?_
                    refine J_iload (pc := 105) dX8_close_105 rfl ?_
                    refine J_iaddN (pc := 107) dX8_close_107 ?_
                    refine J_iload_n (pc := 108) dX8_close_108 rfl rfl ?_
                    refine J_callV0 (pc := 109) (M := mX8_close) (as := [.int (nI ((32 * c5) + k42)), .int (nI s)]) dX8_close_109 fw_X8_goOn fl_X8_74 fm_X8_goOn fe_X8_goOn h19_43 (by decide) rfl rfl rfl (c_X8_goOn_ate hs (d := d - 1) (Nat.le_trans (by decide) hdm) (w := w43) (n := n) (mv := mv) (rw := rw_52) (nx := nx_52) (b := a10) (bt := bt_52) (kn := kn) (en := en) (dn := dn) (rf := rf) (kk := kk) (th := th) ⟨h19_43, h20_43, h21_43, h22_43, hb_43, hbl_39, hb3_39⟩ hn1 hn2 gm gr34 gx35 ((32 * c5) + k42) s (by first | assumption | omega) (by first | assumption | omega) (by exact fun k hk => (hv52_1 k hk).1) (by exact hy1) (by exact hkf.1) (kc := 0) (ks := 0)) hdp (st := []) (Nat.le_of_ble_eq_true rfl) rfl (kr_V fun w44 hw44 => ?_) kx_V
                    obtain ⟨rw44, nx44, bt44, hR44, hFc44, hgrw44, hgnx44, hp44_0, hp44_1, hp44_2⟩ := hw44
                    obtain ⟨h19_44, h20_44, h21_44, h22_44, hbb_44, hbl_44, hb3_44⟩ := hR44
                    have hla3_44 := hFc44.at hc43 (by omega) (by omega)
                    have hF44 := hF43.tr hFc44
                    have hp0 := hp44_1 0
                    have hgo := hp44_2
                    refine J_iconst (pc := 112) (v := nI 1) dX8_close_112 (by decide) ?_
                    refine J_istore (pc := 113) dX8_close_113 (by decide) rfl ?_
                    show J X mX8_close d (kc - 1 - 1) (ks - 158 - 158) 115 [some (.ref 19), some (.int (nI s)), some (.ref a3), some (.int (nI ((fc n + 31) / 2 ^ 5))), some (.int (nI 1)), some (.int (nI c5)), some (.int (nI k42))] [] w44 _
                    refine J_goto (pc := 115) (tgt := 52) dX8_close_115 (by decide) ?_
                    exact J_sub (L' := [some (.ref 19), some (.int (nI s)), some (.ref a3), some (.int (nI ((fc n + 31) / 2 ^ 5))), some (.int (nI 1)), some (.int (nI c5)), none]) ⟨rfl, ⟨rfl, ⟨rfl, ⟨rfl, ⟨rfl, ⟨rfl, trivial⟩⟩⟩⟩⟩⟩ (ihlp52_30 w44 rw44 nx44 bt44 (g_52.set (nI c5).toNatClampNeg ((g_52.getD (nI c5).toNatClampNeg 0) ||| (nI 1 <<< (nI k42 &&& 31)))) 1 ⟨h19_44, h20_44, h21_44, h22_44, hbb_44, hbl_44, hb3_44⟩ hF44 hgrw44 hgnx44 hla3_44 hz43 (by first | assumption | omega) (by exact CX_sd hn1 hn2 hy1 hv52_1 hgo hkb) (by exact (hgo 0).mpr (Or.inl hv52_2)) (by omega) (by omega) (by exact CX_go hv52_5 hgo hkb (by omega) (by assumption)) (by intro h; omega) (by omega))
              exact J_sub (L' := [some (.ref 19), some (.int (nI s)), some (.ref a3), some (.int (nI ((fc n + 31) / 2 ^ 5))), some (.int (nI v4)), some (.int (nI c5)), none]) ⟨rfl, ⟨rfl, ⟨rfl, ⟨rfl, ⟨rfl, ⟨rfl, trivial⟩⟩⟩⟩⟩⟩ (lp52_30 _ w19 rw_46 nx_46 bt_46 g_46 v4 ⟨h19_27, h20_27, h21_27, h22_27, hb_27, hbl_27, hb3_27⟩ hF21 gr22 gx23 hl24 hz25 (by first | assumption | omega) (by assumption) (by assumption) (by first | assumption | omega) (by first | assumption | omega) (by assumption) (by assumption) (Nat.lt_succ_self _))
        exact J_sub (L' := [some (.ref 19), some (.int (nI s)), some (.ref a3), some (.int (nI ((fc n + 31) / 2 ^ 5))), some (.int (nI 0)), some (.int (nI 0)), none]) ⟨rfl, ⟨rfl, ⟨rfl, ⟨rfl, ⟨rfl, ⟨rfl, trivial⟩⟩⟩⟩⟩⟩ (lp46_18 _ w7 rw_35 nx_35 bt_35 g_35 0 0 ⟨h19_15, h20_15, h21_15, h22_15, hb_15, hbl_15, hb3_15⟩ hF9 gr10 gx11 hl12 hz13 (by first | assumption | omega) (by assumption) (by assumption) (by first | assumption | omega) (by first | assumption | omega) (by assumption) (by intro _ k hk; omega) (by first | assumption | omega) (Nat.lt_succ_self _))
  exact J_sub (L' := [some (.ref 19), some (.int (nI s)), some (.ref a3), some (.int (nI ((fc n + 31) / 2 ^ 5))), some (.int (nI 1)), none, none]) ⟨rfl, ⟨rfl, ⟨rfl, ⟨rfl, ⟨rfl, trivial⟩⟩⟩⟩⟩ (lp35_6 _ w4 rw nx ((List.replicate 158 0).set (nI 0).toNatClampNeg (nI 1)) (List.replicate 158 0) 1 ⟨h19_4, h20_4, h21_4, h22_4, hc4, hz4, hb3_3⟩ hF4 gr gx hla3_4 (List.length_replicate : (List.replicate 158 (0 : Int32)).length = 158) (by first | assumption | omega) (by exact CX_0 hn1 hn2) (by exact bitL_10) (by exact CX_g0) (by intro h; omega) (Nat.lt_succ_self _))
set_option maxRecDepth 100000 in
set_option maxHeartbeats 4000000 in
theorem c_X8_group_ate {X : jX} (hs : X.1.stackTraces = false) {d : Nat} (hd : 3 ≤ d) {n : Nat} {mv rw nx : Nat → Nat} {b : Nat} {bt : List Int32} {kn en dn rf kk th : Int32} {w : List jC} (hR : RM n mv rw nx b bt kn en dn rf kk th w) (hn1 : 2 ≤ n) (hn2 : n ≤ 7) (gm : ∀ i, mv i < 7) (gr : ∀ i, rw i < 7) (gx : ∀ i, nx i < 7) (s : Nat) (hy0 : s < 64) (hy1 : PM n mv) (hy2 : KX n mv kn bt) {kc ks : Nat} (hkc : 13 ≤ kc) (hks : 2054 ≤ ks) : jMet X mX8_group d kc ks [.ref 19, .int (nI s)] w (pV (fun w' => ∃ (rw' : Nat → Nat), ∃ (nx' : Nat → Nat), ∃ (b' : Nat), ∃ (bt' : List Int32), ∃ (kn' : Int32), ∃ (en' : Int32), RM n mv rw' nx' b' bt' kn' en' dn rf kk th w' ∧ FR b b' w w' ∧ (∀ i, rw' i < 7) ∧ (∀ i, nx' i < 7) ∧ kn' = nI s ∧ BX n mv s bt')) := by
  refine jMet_of hs (by decide +kernel) (Nat.le_of_ble_eq_true rfl) (L := [some (.ref 19), some (.int (nI s)), none]) rfl ?_
  have hdm : 2 ≤ d - 1 := by omega
  have hdp : d - 1 + 1 ≤ d := by omega
  have hfc := fc_7 hn2
  have hfp := fc_pos n
  obtain ⟨h19, h20, h21, h22, hbb, hbl, hb3⟩ := hR
  have hF : FR b b w w := FR.rf
  refine J_aload_n (pc := 0) dX8_group_0 rfl rfl rfl ?_
  refine J_get (pc := 1) (k := 5) dX8_group_1 kC9 (by decide) ff_X8_26 h19 rfl ?_
  refine J_iload_n (pc := 4) dX8_group_4 rfl rfl ?_
  refine J_icmp_ne (pc := 5) (tgt := 9) dX8_group_5 (by decide) (fun ht1 => ?_) (fun hf2 => ?_)
  · refine J_aload_n (pc := 9) dX8_group_9 rfl rfl rfl ?_
    refine J_sipush (pc := 10) (v := nI 158) dX8_group_10 (by decide) ?_
    refine J_newW (pc := 13) (M := mX8_group) (N := 158) dX8_group_13 fa_int rfl (by omega) (by omega) (by omega) (fun a13 w3 ha3 hln3 hc3 hne3 => ?_)
    have q193 := gl h19
    have q203 := gl h20
    have q213 := gl h21
    have q223 := gl h22
    have qb3 := gl hbb
    have qF3 := hF.1
    have h19_3 := (hne3 19 (by omega)).trans h19
    have h20_3 := (hne3 20 (by omega)).trans h20
    have h21_3 := (hne3 21 (by omega)).trans h21
    have h22_3 := (hne3 22 (by omega)).trans h22
    have hb_3 := (hne3 _ (by omega)).trans hbb
    have hF3 := hF.pu ha3 hln3 hne3
    refine J_putW (pc := 15) (k := 4) dX8_group_15 kC9 (by decide) ff_X8_23 (Or.inl rfl) rfl h19_3 (by show 4 < 11; decide) (fun w4 hln4 hw4 hne4 => ?_)
    have h19_4 : w4[19]? = some (.inr (9, [.int (nI n), .ref 20, .ref 21, .ref 22, .ref a13, .int kn, .int en, .int dn, .int rf, .int kk, .int th])) := hw4
    have h20_4 := (hne4 20 (by omega)).trans h20_3
    have h21_4 := (hne4 21 (by omega)).trans h21_3
    have h22_4 := (hne4 22 (by omega)).trans h22_3
    have hb_4 := (hne4 a13 (by omega)).trans hc3
    have hF4 := (hF3.st hln4 hne4 (Or.inl (by decide))).nb (b'' := a13) (by omega)
    have hb3_4 : 23 ≤ a13 := by omega
    refine J_aload_n (pc := 18) dX8_group_18 rfl rfl rfl ?_
    refine J_get (pc := 19) (k := 4) dX8_group_19 kC9 (by decide) ff_X8_23 h19_4 rfl ?_
    refine J_iconst (pc := 22) (v := nI 0) dX8_group_22 (by decide) ?_
    refine J_iconst (pc := 23) (v := nI 1) dX8_group_23 (by decide) ?_
    refine J_iastW (pc := 24) dX8_group_24 hb_4 (by rw [(List.length_replicate : (List.replicate 158 (0 : Int32)).length = 158)]; exact nI_in (by decide) (by decide)) (fun w5 hln5 hc5 hne5 => ?_)
    have hz5 : ((List.replicate 158 0).set (nI 0).toNatClampNeg (nI 1)).length = 158 := by rw [List.length_set]; exact (List.length_replicate : (List.replicate 158 (0 : Int32)).length = 158)
    have h19_5 := (hne5 19 (Nat.ne_of_lt (Nat.lt_of_lt_of_le (by decide) hb3_4))).trans h19_4
    have h20_5 := (hne5 20 (Nat.ne_of_lt (Nat.lt_of_lt_of_le (by decide) hb3_4))).trans h20_4
    have h21_5 := (hne5 21 (Nat.ne_of_lt (Nat.lt_of_lt_of_le (by decide) hb3_4))).trans h21_4
    have h22_5 := (hne5 22 (Nat.ne_of_lt (Nat.lt_of_lt_of_le (by decide) hb3_4))).trans h22_4
    have hF5 := hF4.st hln5 hne5 (Or.inr (Or.inl rfl))
    refine J_aload_n (pc := 25) dX8_group_25 rfl rfl rfl ?_
    refine J_iconst (pc := 26) (v := nI 0) dX8_group_26 (by decide) ?_
    refine J_putW (pc := 27) (k := 6) dX8_group_27 kC9 (by decide) ff_X8_85 (Or.inl rfl) ⟨rfl, rfl⟩ h19_5 (by show 6 < 11; decide) (fun w6 hln6 hw6 hne6 => ?_)
    have h19_6 : w6[19]? = some (.inr (9, [.int (nI n), .ref 20, .ref 21, .ref 22, .ref a13, .int kn, .int (nI 0), .int dn, .int rf, .int kk, .int th])) := hw6
    have h20_6 := (hne6 20 (by decide)).trans h20_5
    have h21_6 := (hne6 21 (by decide)).trans h21_5
    have h22_6 := (hne6 22 (by decide)).trans h22_5
    have hb_6 := (hne6 _ (Nat.ne_of_gt (Nat.lt_of_lt_of_le (by decide) hb3_4))).trans hc5
    have hF6 := hF5.st hln6 hne6 (Or.inl (by decide))
    refine J_iconst (pc := 30) (v := nI 0) dX8_group_30 (by decide) ?_
    refine J_istore_n (pc := 31) dX8_group_31 rfl (by decide) rfl ?_
    show J X mX8_group d (kc - 1) (ks - 158) 32 [some (.ref 19), some (.int (nI s)), some (.int (nI 0))] [] w6 _
    have lp32_7 : ∀ (fuel : Nat) (kc8 ks9 : Nat) (w10 : List jC) (rw_32 : Nat → Nat) (nx_32 : Nat → Nat) (b_32 : Nat) (bt_32 : List Int32) (c2 : Nat) (e32 : Nat), (RM n mv rw_32 nx_32 b_32 bt_32 kn (nI e32) dn rf kk th w10) → (FR b b_32 w w10) → (∀ i, rw_32 i < 7) → (∀ i, nx_32 i < 7) → ((6 - c2) * 2 ≤ kc8) → ((6 - c2) * 316 ≤ ks9) → (e32 < 64) → (BX n mv e32 bt_32) → (∀ j, e32.testBit j = true → s.testBit j = true) → (∀ j, j < c2 → s.testBit j = true → Gg n (gS (mW n mv) e32 6) (mW n mv j)) → (c2 ≤ 6) → (6 - c2 < fuel) → J X mX8_group d kc8 ks9 32 [some (.ref 19), some (.int (nI s)), some (.int (nI c2))] [] w10 (pV (fun w' => ∃ (rw' : Nat → Nat), ∃ (nx' : Nat → Nat), ∃ (b' : Nat), ∃ (bt' : List Int32), ∃ (kn' : Int32), ∃ (en' : Int32), RM n mv rw' nx' b' bt' kn' en' dn rf kk th w' ∧ FR b b' w w' ∧ (∀ i, rw' i < 7) ∧ (∀ i, nx' i < 7) ∧ kn' = nI s ∧ BX n mv s bt')) := by
      intro fuellp32_7
      induction fuellp32_7 with
      | zero => intros; omega
      | succ fuellp32_7 ihlp32_7 =>
        intro kc8 ks9 w10 rw_32 nx_32 b_32 bt_32 c2 e32 hR11 hF12 gr13 gx14 hr15 hr16 hv32_0 hv32_1 hv32_2 hv32_3 hv32_4 hf17
        obtain ⟨h19_18, h20_18, h21_18, h22_18, hb_18, hbl_18, hb3_18⟩ := hR11
        refine J_iload_n (pc := 32) dX8_group_32 rfl rfl ?_
        refine J_bipush (pc := 33) (v := nI 6) dX8_group_33 (by decide) ?_
        refine J_icmp_geN (pc := 35) (tgt := 94) dX8_group_35 (by decide) (by omega) (by omega) (fun ht19 => ?_) (fun hf20 => ?_)
        · refine J_aload_n (pc := 94) dX8_group_94 rfl rfl rfl ?_
          refine J_iload_n (pc := 95) dX8_group_95 rfl rfl ?_
          refine J_putW (pc := 96) (k := 5) dX8_group_96 kC9 (by decide) ff_X8_26 (Or.inl rfl) ⟨rfl, rfl⟩ h19_18 (by show 5 < 11; decide) (fun w21 hln21 hw21 hne21 => ?_)
          have h19_21 : w21[19]? = some (.inr (9, [.int (nI n), .ref 20, .ref 21, .ref 22, .ref b_32, .int (nI s), .int (nI e32), .int dn, .int rf, .int kk, .int th])) := hw21
          have h20_21 := (hne21 20 (by decide)).trans h20_18
          have h21_21 := (hne21 21 (by decide)).trans h21_18
          have h22_21 := (hne21 22 (by decide)).trans h22_18
          have hb_21 := (hne21 _ (Nat.ne_of_gt (Nat.lt_of_lt_of_le (by decide) hb3_18))).trans hb_18
          have hF21 := hF12.st hln21 hne21 (Or.inl (by decide))
          exact J_vret (pc := 99) dX8_group_99 rfl (⟨rw_32, nx_32, b_32, bt_32, nI s, nI e32, ⟨h19_21, h20_21, h21_21, h22_21, hb_21, hbl_18, hb3_18⟩, hF21, gr13, gx14, (by first | rfl | assumption), (by first | exact GX_end hn1 hn2 hy1 (by omega) hv32_1 hv32_2 hv32_3 | exact KX_of hy2 (by assumption) hy0)⟩)
        · refine J_iload_n (pc := 38) dX8_group_38 rfl rfl ?_
          refine J_iload_n (pc := 39) dX8_group_39 rfl rfl ?_
          refine J_ishrN (pc := 40) dX8_group_40 (by omega) (by omega) ?_
          refine J_iconst (pc := 41) (v := nI 1) dX8_group_41 (by decide) ?_
          have hm22 := Nat.mod_lt (s / 2 ^ c2) (show 0 < 2 ^ 1 by decide)
          have hm23 := Nat.div_le_self s (2 ^ c2)
          refine J_iandN (pc := 42) 1 dX8_group_42 (by omega) (by decide) ?_
          refine J_if_eqN (pc := 43) (tgt := 88) dX8_group_43 (by decide) (by omega) (fun ht24 => ?_) (fun hf25 => ?_)
          · refine J_iincN (pc := 88) (b := 1) dX8_group_88 rfl (by decide) (by decide) rfl ?_
            show J X mX8_group d kc8 ks9 91 [some (.ref 19), some (.int (nI s)), some (.int (nI (c2 + 1)))] [] w10 _
            refine J_goto (pc := 91) (tgt := 32) dX8_group_91 (by decide) ?_
            exact J_sub (L' := [some (.ref 19), some (.int (nI s)), some (.int (nI (c2 + 1)))]) ⟨rfl, ⟨rfl, ⟨rfl, trivial⟩⟩⟩ (ihlp32_7 _ _ w10 rw_32 nx_32 b_32 bt_32 (c2 + 1) e32 ⟨h19_18, h20_18, h21_18, h22_18, hb_18, hbl_18, hb3_18⟩ hF12 gr13 gx14 (by omega) (by omega) (by first | assumption | exact Nat.or_lt_two_pow (n := 6) (by assumption) (Nat.pow_lt_pow_right (by decide) (by omega))) (by assumption) (by first | assumption | exact GX_e hv32_2 (by assumption)) (by first | exact GX_t hn1 hn2 hy1 (by omega) hv32_3 | exact GX_k hn1 hn2 hy1 (by omega) hv32_1 hv32_3 (by assumption) | exact GX_n hv32_3 (by assumption)) (by first | assumption | omega) (by omega))
          · refine J_aload_n (pc := 46) dX8_group_46 rfl rfl rfl ?_
            refine J_aload_n (pc := 47) dX8_group_47 rfl rfl rfl ?_
            refine J_aload_n (pc := 48) dX8_group_48 rfl rfl rfl ?_
            refine J_get (pc := 49) (k := 1) dX8_group_49 kC9 (by decide) ff_X8_13 h19_18 rfl ?_
            refine J_iload_n (pc := 52) dX8_group_52 rfl rfl ?_
            refine J_bipush (pc := 53) (v := nI 7) dX8_group_53 (by decide) ?_
            refine J_imulN (pc := 55) dX8_group_55 ?_
            refine J_callV0 (pc := 56) (M := mX8_group) (as := [.ref 20, .int (nI (c2 * 7))]) dX8_group_56 fw_X8_numberOf fl_X8_45 fm_X8_numberOf fe_X8_numberOf h19_18 (by decide) rfl rfl rfl (c_X8_numberOf_at20 hs (d := d - 1) (Nat.le_trans (by decide) hdm) (w := w10) (n := n) (mv := mv) (rw := rw_32) (nx := nx_32) (b := b_32) (bt := bt_32) (kn := kn) (en := nI e32) (dn := dn) (rf := rf) (kk := kk) (th := th) ⟨h19_18, h20_18, h21_18, h22_18, hb_18, hbl_18, hb3_18⟩ hn1 hn2 gm gr13 gx14 (c2 * 7) (by first | assumption | omega) (kc := 0) (ks := 0)) hdp (st := [.ref 19]) (Nat.le_of_ble_eq_true rfl) rfl (kr_P fun v26 hv26 => ?_) kx_I
            subst hv26
            have hq27 := nuF_b mv (c2 * 7) n
            refine J_callV0 (pc := 59) (M := mX8_group) (as := [.int (nI (nuF mv (c2 * 7) n n))]) dX8_group_59 fw_X8_isBit fl_X8_88 fm_X8_isBit fe_X8_isBit h19_18 (by decide) rfl rfl rfl (c_X8_isBit hs (d := d - 1) (Nat.le_trans (by decide) hdm) (w := w10) (n := n) (mv := mv) (rw := rw_32) (nx := nx_32) (b := b_32) (bt := bt_32) (kn := kn) (en := nI e32) (dn := dn) (rf := rf) (kk := kk) (th := th) ⟨h19_18, h20_18, h21_18, h22_18, hb_18, hbl_18, hb3_18⟩ hn1 hn2 gm gr13 gx14 (nuF mv (c2 * 7) n n) (by first | assumption | omega) (kc := 0) (ks := 0)) hdp (st := []) (Nat.le_of_ble_eq_true rfl) rfl (kr_P fun v28 hv28 => ?_) kx_I
            rcases hv28 with ⟨rfl, hk28_0⟩ | ⟨rfl, hk28_0⟩
            · refine J_if_eqN (pc := 62) (tgt := 68) dX8_group_62 (by decide) (by decide) (fun _ => ?_) (fun h => absurd h (by decide))
              refine J_aload_n (pc := 68) dX8_group_68 rfl rfl rfl ?_
              refine J_dup (pc := 69) dX8_group_69 rfl ?_
              refine J_get (pc := 70) (k := 6) dX8_group_70 kC9 (by decide) ff_X8_85 h19_18 rfl ?_
              refine J_iconst (pc := 73) (v := nI 1) dX8_group_73 (by decide) ?_
              refine J_iload_n (pc := 74) dX8_group_74 rfl rfl ?_
              refine J_ishl (pc := 75) dX8_group_75 ?_
              refine J_ior (pc := 76) dX8_group_76 ?_
              rw [en_x (by assumption) (by omega)]
              refine J_putW (pc := 77) (k := 6) dX8_group_77 kC9 (by decide) ff_X8_85 (Or.inl rfl) ⟨rfl, rfl⟩ h19_18 (by show 6 < 11; decide) (fun w29 hln29 hw29 hne29 => ?_)
              have h19_29 : w29[19]? = some (.inr (9, [.int (nI n), .ref 20, .ref 21, .ref 22, .ref b_32, .int kn, .int (nI (e32 ||| 2 ^ c2)), .int dn, .int rf, .int kk, .int th])) := hw29
              have h20_29 := (hne29 20 (by decide)).trans h20_18
              have h21_29 := (hne29 21 (by decide)).trans h21_18
              have h22_29 := (hne29 22 (by decide)).trans h22_18
              have hb_29 := (hne29 _ (Nat.ne_of_gt (Nat.lt_of_lt_of_le (by decide) hb3_18))).trans hb_18
              have hF29 := hF12.st hln29 hne29 (Or.inl (by decide))
              refine J_aload_n (pc := 80) dX8_group_80 rfl rfl rfl ?_
              refine J_aload_n (pc := 81) dX8_group_81 rfl rfl rfl ?_
              refine J_get (pc := 82) (k := 6) dX8_group_82 kC9 (by decide) ff_X8_85 h19_29 rfl ?_
              refine J_callV (pc := 85) (M := mX8_group) (as := [.int (nI (e32 ||| 2 ^ c2))]) dX8_group_85 fw_X8_close fl_X8_92 fm_X8_close fe_X8_close h19_29 (by decide) rfl rfl rfl (c_X8_close_ate hs (d := d - 1) (Nat.le_trans (by decide) hdm) (w := w29) (n := n) (mv := mv) (rw := rw_32) (nx := nx_32) (b := b_32) (bt := bt_32) (kn := kn) (en := nI (e32 ||| 2 ^ c2)) (dn := dn) (rf := rf) (kk := kk) (th := th) ⟨h19_29, h20_29, h21_29, h22_29, hb_29, hbl_18, hb3_18⟩ hn1 hn2 gm gr13 gx14 (e32 ||| 2 ^ c2) (by exact Nat.or_lt_two_pow (n := 6) (by assumption) (Nat.pow_lt_pow_right (by decide) (by omega))) (by first | assumption | omega) (kc := 2) (ks := 316) (Nat.le_refl _) (Nat.le_refl _)) hdp (by omega) (by omega) (st := []) (Nat.le_of_ble_eq_true rfl) rfl (kr_V fun w30 hw30 => ?_) kx_V
              obtain ⟨rw30, nx30, b30, bt30, hR30, hFc30, hgrw30, hgnx30, hp30_0⟩ := hw30
              obtain ⟨h19_30, h20_30, h21_30, h22_30, hbb_30, hbl_30, hb3_30⟩ := hR30
              have qd30 := hFc30.2.1
              have hF30 := hF29.tr hFc30
              refine J_iincN (pc := 88) (b := 1) dX8_group_88 rfl (by decide) (by decide) rfl ?_
              show J X mX8_group d (kc8 - 2) (ks9 - 316) 91 [some (.ref 19), some (.int (nI s)), some (.int (nI (c2 + 1)))] [] w30 _
              refine J_goto (pc := 91) (tgt := 32) dX8_group_91 (by decide) ?_
              exact J_sub (L' := [some (.ref 19), some (.int (nI s)), some (.int (nI (c2 + 1)))]) ⟨rfl, ⟨rfl, ⟨rfl, trivial⟩⟩⟩ (ihlp32_7 _ _ w30 rw30 nx30 b30 bt30 (c2 + 1) (e32 ||| 2 ^ c2) ⟨h19_30, h20_30, h21_30, h22_30, hbb_30, hbl_30, hb3_30⟩ hF30 hgrw30 hgnx30 (by omega) (by omega) (by first | assumption | exact Nat.or_lt_two_pow (n := 6) (by assumption) (Nat.pow_lt_pow_right (by decide) (by omega))) (by assumption) (by first | assumption | exact GX_e hv32_2 (by assumption)) (by first | exact GX_t hn1 hn2 hy1 (by omega) hv32_3 | exact GX_k hn1 hn2 hy1 (by omega) hv32_1 hv32_3 (by assumption) | exact GX_n hv32_3 (by assumption)) (by first | assumption | omega) (by omega))
            · refine J_if_eqN (pc := 62) (tgt := 68) dX8_group_62 (by decide) (by decide) (fun h => absurd h (by decide)) (fun _ => ?_)
              refine J_goto (pc := 65) (tgt := 88) dX8_group_65 (by decide) ?_
              refine J_iincN (pc := 88) (b := 1) dX8_group_88 rfl (by decide) (by decide) rfl ?_
              show J X mX8_group d kc8 ks9 91 [some (.ref 19), some (.int (nI s)), some (.int (nI (c2 + 1)))] [] w10 _
              refine J_goto (pc := 91) (tgt := 32) dX8_group_91 (by decide) ?_
              exact J_sub (L' := [some (.ref 19), some (.int (nI s)), some (.int (nI (c2 + 1)))]) ⟨rfl, ⟨rfl, ⟨rfl, trivial⟩⟩⟩ (ihlp32_7 _ _ w10 rw_32 nx_32 b_32 bt_32 (c2 + 1) e32 ⟨h19_18, h20_18, h21_18, h22_18, hb_18, hbl_18, hb3_18⟩ hF12 gr13 gx14 (by omega) (by omega) (by first | assumption | exact Nat.or_lt_two_pow (n := 6) (by assumption) (Nat.pow_lt_pow_right (by decide) (by omega))) (by assumption) (by first | assumption | exact GX_e hv32_2 (by assumption)) (by first | exact GX_t hn1 hn2 hy1 (by omega) hv32_3 | exact GX_k hn1 hn2 hy1 (by omega) hv32_1 hv32_3 (by assumption) | exact GX_n hv32_3 (by assumption)) (by first | assumption | omega) (by omega))
    exact J_sub (L' := [some (.ref 19), some (.int (nI s)), some (.int (nI 0))]) ⟨rfl, ⟨rfl, ⟨rfl, trivial⟩⟩⟩ (lp32_7 _ _ _ w6 rw nx a13 ((List.replicate 158 0).set (nI 0).toNatClampNeg (nI 1)) 0 0 ⟨h19_6, h20_6, h21_6, h22_6, hb_6, hz5, hb3_4⟩ hF6 gr gx (by omega) (by omega) (by decide) (by exact GX_0 hn1 hn2) (by exact fun j h => absurd h (by rw [Nat.zero_testBit]; decide)) (by exact fun j hj => absurd hj (Nat.not_lt_zero j)) (by first | assumption | omega) (Nat.lt_succ_self _))
  · exact J_vret (pc := 8) dX8_group_8 rfl (⟨rw, nx, b, bt, kn, en, ⟨h19, h20, h21, h22, hbb, hbl, hb3⟩, hF, gr, gx, (by first | rfl | assumption), (by first | exact GX_end hn1 hn2 hy1 (by omega) hv32_1 hv32_2 hv32_3 | exact KX_of hy2 (by assumption) hy0)⟩)
end
section
/-! contracts of the reference: rspec2 -/
set_option maxRecDepth 100000 in
set_option maxHeartbeats 4000000 in
theorem c_X8_sizeNow {X : jX} (hs : X.1.stackTraces = false) {d : Nat} (hd : 1 ≤ d) {n : Nat} {mv rw nx : Nat → Nat} {b : Nat} {bt : List Int32} {kn en dn rf kk th : Int32} {w : List jC} (hR : RM n mv rw nx b bt kn en dn rf kk th w) (hn1 : 2 ≤ n) (hn2 : n ≤ 7) (gm : ∀ i, mv i < 7) (gr : ∀ i, rw i < 7) (gx : ∀ i, nx i < 7) {kc ks : Nat} : jMet X mX8_sizeNow d kc ks [.ref 19] w (pI (fun v => v = nI (cnt (bitL bt) 5056)) (fun w' => w' = w)) := by
  refine jMet_of hs (by decide +kernel) (Nat.le_of_ble_eq_true rfl) (L := [some (.ref 19), none, none, none, none, none]) rfl ?_
  have hfc := fc_7 hn2
  have hfp := fc_pos n
  obtain ⟨h19, h20, h21, h22, hbb, hbl, hb3⟩ := hR
  have hF : FR b b w w := FR.rf
  refine J_iconst (pc := 0) (v := nI 0) dX8_sizeNow_0 (by decide) ?_
  refine J_istore_n (pc := 1) dX8_sizeNow_1 rfl (by decide) rfl ?_
  show J X mX8_sizeNow d kc ks 2 [some (.ref 19), some (.int (nI 0)), none, none, none, none] [] w _
  refine J_aload_n (pc := 2) dX8_sizeNow_2 rfl rfl rfl ?_
  refine J_get (pc := 3) (k := 4) dX8_sizeNow_3 kC9 (by decide) ff_X8_23 h19 rfl ?_
  refine J_astore_n (pc := 6) dX8_sizeNow_6 rfl (by decide) rfl rfl ?_
  show J X mX8_sizeNow d kc ks 7 [some (.ref 19), some (.int (nI 0)), some (.ref b), none, none, none] [] w _
  refine J_aload_n (pc := 7) dX8_sizeNow_7 rfl rfl rfl ?_
  refine J_alen (pc := 8) (n := nI 158) dX8_sizeNow_8 hbb (by decide) (by rw [hbl]; rfl) ?_
  refine J_istore_n (pc := 9) dX8_sizeNow_9 rfl (by decide) rfl ?_
  show J X mX8_sizeNow d kc ks 10 [some (.ref 19), some (.int (nI 0)), some (.ref b), some (.int (nI 158)), none, none] [] w _
  refine J_iconst (pc := 10) (v := nI 0) dX8_sizeNow_10 (by decide) ?_
  refine J_istore (pc := 11) dX8_sizeNow_11 (by decide) rfl ?_
  show J X mX8_sizeNow d kc ks 13 [some (.ref 19), some (.int (nI 0)), some (.ref b), some (.int (nI 158)), some (.int (nI 0)), none] [] w _
  have lp13_1 : ∀ (fuel : Nat) (y1 : Nat) (c4 : Nat), (y1 = cnt (bitL bt) (32 * c4)) → (c4 ≤ 158) → (158 - c4 < fuel) → J X mX8_sizeNow d kc ks 13 [some (.ref 19), some (.int (nI y1)), some (.ref b), some (.int (nI 158)), some (.int (nI c4)), none] [] w (pI (fun v => v = nI (cnt (bitL bt) 5056)) (fun w' => w' = w)) := by
    intro fuellp13_1
    induction fuellp13_1 with
    | zero => intros; omega
    | succ fuellp13_1 ihlp13_1 =>
      intro y1 c4 hv13_0 hv13_1 hf2
      refine J_iload (pc := 13) dX8_sizeNow_13 rfl ?_
      refine J_iload_n (pc := 15) dX8_sizeNow_15 rfl rfl ?_
      refine J_icmp_geN (pc := 16) (tgt := 39) dX8_sizeNow_16 (by decide) (by omega) (by omega) (fun ht3 => ?_) (fun hf4 => ?_)
      · refine J_iload_n (pc := 39) dX8_sizeNow_39 rfl rfl ?_
        exact J_iret (pc := 40) dX8_sizeNow_40 rfl ⟨(congrArg nI (by rw [hv13_0, show c4 = 158 by omega])), rfl⟩
      · refine J_aload_n (pc := 19) dX8_sizeNow_19 rfl rfl rfl ?_
        refine J_iload (pc := 20) dX8_sizeNow_20 rfl ?_
        refine J_iald (pc := 22) dX8_sizeNow_22 hbb (by rw [hbl]; exact nI_in (by omega) (by decide)) ?_
        refine J_istore (pc := 23) dX8_sizeNow_23 (by decide) rfl ?_
        show J X mX8_sizeNow d kc ks 25 [some (.ref 19), some (.int (nI y1)), some (.ref b), some (.int (nI 158)), some (.int (nI c4)), some (.int (bt.getD (nI c4).toNatClampNeg 0))] [] w _
        refine J_iload_n (pc := 25) dX8_sizeNow_25 rfl rfl ?_
        refine J_iload (pc := 26) dX8_sizeNow_26 rfl ?_
        refine J_callS0 (pc := 28) (M := mX8_sizeNow) (as := [.int (bt.getD (nI c4).toNatClampNeg 0)]) dX8_sizeNow_28 fw_J6_bitCount_0f7a4 fl_X8_96 fs_J6_bitCount_0f7a4 rfl (c_J6_bitCount_0f7a4_atx hs (d := d - 1) (by omega) (w := w) (bt.getD (nI c4).toNatClampNeg 0) (kc := 0) (ks := 0)) (by omega) (st := [.int (nI y1)]) (Nat.le_of_ble_eq_true rfl) rfl (kr_P fun v5 hv5 => ?_) kx_I
        subst hv5
        refine J_iaddN (pc := 31) dX8_sizeNow_31 ?_
        refine J_istore_n (pc := 32) dX8_sizeNow_32 rfl (by decide) rfl ?_
        show J X mX8_sizeNow d kc ks 33 [some (.ref 19), some (.int (nI (y1 + (pc32 (bt.getD (nI c4).toNatClampNeg 0))))), some (.ref b), some (.int (nI 158)), some (.int (nI c4)), some (.int (bt.getD (nI c4).toNatClampNeg 0))] [] w _
        refine J_iincN (pc := 33) (b := 1) dX8_sizeNow_33 rfl (by decide) (by decide) rfl ?_
        show J X mX8_sizeNow d kc ks 36 [some (.ref 19), some (.int (nI (y1 + (pc32 (bt.getD (nI c4).toNatClampNeg 0))))), some (.ref b), some (.int (nI 158)), some (.int (nI (c4 + 1))), some (.int (bt.getD (nI c4).toNatClampNeg 0))] [] w _
        refine J_goto (pc := 36) (tgt := 13) dX8_sizeNow_36 (by decide) ?_
        exact J_sub (L' := [some (.ref 19), some (.int (nI (y1 + (pc32 (bt.getD (nI c4).toNatClampNeg 0))))), some (.ref b), some (.int (nI 158)), some (.int (nI (c4 + 1))), none]) ⟨rfl, ⟨rfl, ⟨rfl, ⟨rfl, ⟨rfl, trivial⟩⟩⟩⟩⟩ (ihlp13_1 (y1 + (pc32 (bt.getD (nI c4).toNatClampNeg 0))) (c4 + 1) (by rw [hv13_0]; exact cnt_word bt (by omega)) (by first | assumption | omega) (by omega))
  exact J_sub (L' := [some (.ref 19), some (.int (nI 0)), some (.ref b), some (.int (nI 158)), some (.int (nI 0)), none]) ⟨rfl, ⟨rfl, ⟨rfl, ⟨rfl, ⟨rfl, trivial⟩⟩⟩⟩⟩ (lp13_1 _ 0 0 (by rfl) (by first | assumption | omega) (Nat.lt_succ_self _))
set_option maxRecDepth 100000 in
set_option maxHeartbeats 4000000 in
theorem c_X8_sizeOf {X : jX} (hs : X.1.stackTraces = false) {d : Nat} (hd : 4 ≤ d) {n : Nat} {mv rw nx : Nat → Nat} {b : Nat} {bt : List Int32} {kn en dn rf kk th : Int32} {w : List jC} (hR : RM n mv rw nx b bt kn en dn rf kk th w) (hn1 : 2 ≤ n) (hn2 : n ≤ 7) (gm : ∀ i, mv i < 7) (gr : ∀ i, rw i < 7) (gx : ∀ i, nx i < 7) (s : Nat) (hy0 : s < 64) (hy1 : PM n mv) (hy2 : KX n mv kn bt) {kc ks : Nat} (hkc : 13 ≤ kc) (hks : 2054 ≤ ks) : jMet X mX8_sizeOf d kc ks [.ref 19, .int (nI s)] w (pI (fun v => ∃ k : Nat, v = nI k ∧ 1 ≤ k ∧ k ≤ 5056) (fun w' => ∃ (rw' : Nat → Nat), ∃ (nx' : Nat → Nat), ∃ (b' : Nat), ∃ (bt' : List Int32), ∃ (kn' : Int32), ∃ (en' : Int32), RM n mv rw' nx' b' bt' kn' en' dn rf kk th w' ∧ FR b b' w w' ∧ (∀ i, rw' i < 7) ∧ (∀ i, nx' i < 7) ∧ kn' = nI s ∧ BX n mv s bt')) := by
  refine jMet_of hs (by decide +kernel) (Nat.le_of_ble_eq_true rfl) (L := [some (.ref 19), some (.int (nI s))]) rfl ?_
  have hfc := fc_7 hn2
  have hfp := fc_pos n
  obtain ⟨h19, h20, h21, h22, hbb, hbl, hb3⟩ := hR
  have hF : FR b b w w := FR.rf
  refine J_aload_n (pc := 0) dX8_sizeOf_0 rfl rfl rfl ?_
  refine J_iload_n (pc := 1) dX8_sizeOf_1 rfl rfl ?_
  refine J_callV (pc := 2) (M := mX8_sizeOf) (as := [.int (nI s)]) dX8_sizeOf_2 fw_X8_group fl_X8_99 fm_X8_group fe_X8_group h19 (by decide) rfl rfl rfl (c_X8_group_ate hs (d := d - 1) (by omega) (w := w) (n := n) (mv := mv) (rw := rw) (nx := nx) (b := b) (bt := bt) (kn := kn) (en := en) (dn := dn) (rf := rf) (kk := kk) (th := th) ⟨h19, h20, h21, h22, hbb, hbl, hb3⟩ hn1 hn2 gm gr gx s (by first | assumption | omega) (by first | assumption | omega) (by first | assumption | omega) (kc := 13) (ks := 2054) (Nat.le_refl _) (Nat.le_refl _)) (by omega) (by omega) (by omega) (st := []) (Nat.le_of_ble_eq_true rfl) rfl (kr_V fun w1 hw1 => ?_) kx_V
  obtain ⟨rw1, nx1, b1, bt1, kn1, en1, hR1, hFc1, hgrw1, hgnx1, hp1_0, hp1_1⟩ := hw1
  obtain ⟨h19_1, h20_1, h21_1, h22_1, hbb_1, hbl_1, hb3_1⟩ := hR1
  have qd1 := hFc1.2.1
  have hF1 := hF.tr hFc1
  have hbt := hp1_1
  refine J_aload_n (pc := 5) dX8_sizeOf_5 rfl rfl rfl ?_
  refine J_callV0 (pc := 6) (M := mX8_sizeOf) (as := []) dX8_sizeOf_6 fw_X8_sizeNow fl_X8_102 fm_X8_sizeNow fe_X8_sizeNow h19_1 (by decide) rfl rfl rfl (c_X8_sizeNow hs (d := d - 1) (by omega) (w := w1) (n := n) (mv := mv) (rw := rw1) (nx := nx1) (b := b1) (bt := bt1) (kn := kn1) (en := en1) (dn := dn) (rf := rf) (kk := kk) (th := th) ⟨h19_1, h20_1, h21_1, h22_1, hbb_1, hbl_1, hb3_1⟩ hn1 hn2 gm hgrw1 hgnx1  (kc := 0) (ks := 0)) (by omega) (st := []) (Nat.le_of_ble_eq_true rfl) rfl (kr_P fun v2 hv2 => ?_) kx_I
  subst hv2
  exact J_iret (pc := 9) dX8_sizeOf_9 rfl ⟨⟨cnt (bitL bt1) 5056, rfl, by exact ⟨cnt_pos 5056 0 (by decide) (BX_BT hn1 hn2 hbt).2, cnt_le _ _⟩⟩, ⟨rw1, nx1, b1, bt1, kn1, en1, ⟨h19_1, h20_1, h21_1, h22_1, hbb_1, hbl_1, hb3_1⟩, hF1, hgrw1, hgnx1, (by first | assumption | omega), (by first | assumption | omega)⟩⟩
set_option maxRecDepth 100000 in
set_option maxHeartbeats 4000000 in
theorem c_X8_from {X : jX} (hs : X.1.stackTraces = false) {d : Nat} (hd : 1 ≤ d) {n : Nat} {mv rw nx : Nat → Nat} {b : Nat} {bt : List Int32} {kn en dn rf kk th : Int32} {w : List jC} (hR : RM n mv rw nx b bt kn en dn rf kk th w) (hn1 : 2 ≤ n) (hn2 : n ≤ 7) (gm : ∀ i, mv i < 7) (gr : ∀ i, rw i < 7) (gx : ∀ i, nx i < 7) (a : Nat) (hy0 : a ≤ fc n) {kc ks : Nat} : jMet X mX8_from d kc ks [.ref 19, .int (nI a)] w (pI (fun v => (v = (-1) ∧ ∀ j, a ≤ j → j < fc n → bitL bt j = false) ∨ (∃ (q : Nat), v = nI q ∧ a ≤ q ∧ q < fc n ∧ bitL bt q = true ∧ ∀ j, a ≤ j → j < q → bitL bt j = false)) (fun w' => w' = w)) := by
  refine jMet_of hs (by decide +kernel) (Nat.le_of_ble_eq_true rfl) (L := [some (.ref 19), some (.int (nI a)), none]) rfl ?_
  have hfc := fc_7 hn2
  have hfp := fc_pos n
  obtain ⟨h19, h20, h21, h22, hbb, hbl, hb3⟩ := hR
  have hF : FR b b w w := FR.rf
  refine J_iload_n (pc := 0) dX8_from_0 rfl rfl ?_
  refine J_istore_n (pc := 1) dX8_from_1 rfl (by decide) rfl ?_
  show J X mX8_from d kc ks 2 [some (.ref 19), some (.int (nI a)), some (.int (nI a))] [] w _
  have lp2_1 : ∀ (fuel : Nat) (c2 : Nat), (a ≤ c2) → (c2 ≤ fc n) → (∀ j, a ≤ j → j < c2 → bitL bt j = false) → (fc n - c2 < fuel) → J X mX8_from d kc ks 2 [some (.ref 19), some (.int (nI a)), some (.int (nI c2))] [] w (pI (fun v => (v = (-1) ∧ ∀ j, a ≤ j → j < fc n → bitL bt j = false) ∨ (∃ (q : Nat), v = nI q ∧ a ≤ q ∧ q < fc n ∧ bitL bt q = true ∧ ∀ j, a ≤ j → j < q → bitL bt j = false)) (fun w' => w' = w)) := by
    intro fuellp2_1
    induction fuellp2_1 with
    | zero => intros; omega
    | succ fuellp2_1 ihlp2_1 =>
      intro c2 hv2_0 hv2_1 hv2_2 hf2
      refine J_iload_n (pc := 2) dX8_from_2 rfl rfl ?_
      refine J_aload_n (pc := 3) dX8_from_3 rfl rfl rfl ?_
      refine J_callV0 (pc := 4) (M := mX8_from) (as := []) dX8_from_4 fw_X8_all fl_X8_65 fm_X8_all fe_X8_all h19 (by decide) rfl rfl rfl (c_X8_all hs (d := d - 1) (by omega) (w := w) (n := n) (mv := mv) (rw := rw) (nx := nx) (b := b) (bt := bt) (kn := kn) (en := en) (dn := dn) (rf := rf) (kk := kk) (th := th) ⟨h19, h20, h21, h22, hbb, hbl, hb3⟩ hn1 hn2 gm gr gx  (kc := 0) (ks := 0)) (by omega) (st := [.int (nI c2)]) (Nat.le_of_ble_eq_true rfl) rfl (kr_P fun v3 hv3 => ?_) kx_I
      subst hv3
      refine J_icmp_geN (pc := 7) (tgt := 26) dX8_from_7 (by decide) (by omega) (by omega) (fun ht4 => ?_) (fun hf5 => ?_)
      · refine J_iconst (pc := 26) (v := (-1)) dX8_from_26 (by decide) ?_
        exact J_iret (pc := 27) dX8_from_27 rfl ⟨Or.inl ⟨rfl, (by intro j h1 h2; exact hv2_2 j h1 (by omega))⟩, rfl⟩
      · refine J_aload_n (pc := 10) dX8_from_10 rfl rfl rfl ?_
        refine J_iload_n (pc := 11) dX8_from_11 rfl rfl ?_
        refine J_callV0 (pc := 12) (M := mX8_from) (as := [.int (nI c2)]) dX8_from_12 fw_X8_isBit fl_X8_88 fm_X8_isBit fe_X8_isBit h19 (by decide) rfl rfl rfl (c_X8_isBit hs (d := d - 1) (by omega) (w := w) (n := n) (mv := mv) (rw := rw) (nx := nx) (b := b) (bt := bt) (kn := kn) (en := en) (dn := dn) (rf := rf) (kk := kk) (th := th) ⟨h19, h20, h21, h22, hbb, hbl, hb3⟩ hn1 hn2 gm gr gx c2 (by first | assumption | omega) (kc := 0) (ks := 0)) (by omega) (st := []) (Nat.le_of_ble_eq_true rfl) rfl (kr_P fun v6 hv6 => ?_) kx_I
        rcases hv6 with ⟨rfl, hk6_0⟩ | ⟨rfl, hk6_0⟩
        · refine J_if_eqN (pc := 15) (tgt := 20) dX8_from_15 (by decide) (by decide) (fun _ => ?_) (fun h => absurd h (by decide))
          refine J_iincN (pc := 20) (b := 1) dX8_from_20 rfl (by decide) (by decide) rfl ?_
          show J X mX8_from d kc ks 23 [some (.ref 19), some (.int (nI a)), some (.int (nI (c2 + 1)))] [] w _
          refine J_goto (pc := 23) (tgt := 2) dX8_from_23 (by decide) ?_
          exact J_sub (L' := [some (.ref 19), some (.int (nI a)), some (.int (nI (c2 + 1)))]) ⟨rfl, ⟨rfl, ⟨rfl, trivial⟩⟩⟩ (ihlp2_1 (c2 + 1) (by first | assumption | omega) (by first | assumption | omega) (by intro j h1 h2; by_cases e : j = c2; (subst e; assumption); (exact hv2_2 j h1 (by omega))) (by omega))
        · refine J_if_eqN (pc := 15) (tgt := 20) dX8_from_15 (by decide) (by decide) (fun h => absurd h (by decide)) (fun _ => ?_)
          refine J_iload_n (pc := 18) dX8_from_18 rfl rfl ?_
          exact J_iret (pc := 19) dX8_from_19 rfl ⟨Or.inr (⟨c2, rfl, (by first | assumption | omega | rfl), (by first | assumption | omega | rfl), (by first | assumption | omega | rfl), (by first | assumption | omega | rfl)⟩), rfl⟩
  exact J_sub (L' := [some (.ref 19), some (.int (nI a)), some (.int (nI a))]) ⟨rfl, ⟨rfl, ⟨rfl, trivial⟩⟩⟩ (lp2_1 _ a (by first | assumption | omega) (by first | assumption | omega) (by intro j h1 h2; omega) (Nat.lt_succ_self _))
end
section
/-! contracts of the reference: rspec3 -/
set_option maxRecDepth 100000 in
set_option maxHeartbeats 4000000 in
theorem c_X8_stillRow {X : jX} (hs : X.1.stackTraces = false) {d : Nat} (hd : 0 ≤ d) {n : Nat} {mv rw nx : Nat → Nat} {b : Nat} {bt : List Int32} {kn en dn rf kk th : Int32} {w : List jC} (hR : RM n mv rw nx b bt kn en dn rf kk th w) (hn1 : 2 ≤ n) (hn2 : n ≤ 7) (gm : ∀ i, mv i < 7) (gr : ∀ i, rw i < 7) (gx : ∀ i, nx i < 7) {kc ks : Nat} : jMet X mX8_stillRow d kc ks [.ref 19] w (pV (fun w' => ∃ (rw' : Nat → Nat), RM n mv rw' nx b bt kn en dn rf kk th w' ∧ FR b b w w' ∧ (∀ i, rw' i < 7) ∧ ∀ p, p < n → rw' p = p)) := by
  refine jMet_of hs (by decide +kernel) (Nat.le_of_ble_eq_true rfl) (L := [some (.ref 19), none]) rfl ?_
  have hfc := fc_7 hn2
  have hfp := fc_pos n
  obtain ⟨h19, h20, h21, h22, hbb, hbl, hb3⟩ := hR
  have hF : FR b b w w := FR.rf
  refine J_iconst (pc := 0) (v := nI 0) dX8_stillRow_0 (by decide) ?_
  refine J_istore_n (pc := 1) dX8_stillRow_1 rfl (by decide) rfl ?_
  show J X mX8_stillRow d kc ks 2 [some (.ref 19), some (.int (nI 0))] [] w _
  have lp2_1 : ∀ (fuel : Nat) (w2 : List jC) (rw_2 : Nat → Nat) (c1 : Nat), (RM n mv rw_2 nx b bt kn en dn rf kk th w2) → (FR b b w w2) → (∀ i, rw_2 i < 7) → (∀ p, p < c1 → rw_2 p = p) → (c1 ≤ n) → (n - c1 < fuel) → J X mX8_stillRow d kc ks 2 [some (.ref 19), some (.int (nI c1))] [] w2 (pV (fun w' => ∃ (rw' : Nat → Nat), RM n mv rw' nx b bt kn en dn rf kk th w' ∧ FR b b w w' ∧ (∀ i, rw' i < 7) ∧ ∀ p, p < n → rw' p = p)) := by
    intro fuellp2_1
    induction fuellp2_1 with
    | zero => intros; omega
    | succ fuellp2_1 ihlp2_1 =>
      intro w2 rw_2 c1 hR3 hF4 gr5 hv2_0 hv2_1 hf6
      obtain ⟨h19_7, h20_7, h21_7, h22_7, hb_7, hbl_7, hb3_7⟩ := hR3
      refine J_iload_n (pc := 2) dX8_stillRow_2 rfl rfl ?_
      refine J_aload_n (pc := 3) dX8_stillRow_3 rfl rfl rfl ?_
      refine J_get (pc := 4) (k := 0) dX8_stillRow_4 kC9 (by decide) ff_X8_7 h19_7 rfl ?_
      refine J_icmp_geN (pc := 7) (tgt := 23) dX8_stillRow_7 (by decide) (by omega) (by omega) (fun ht8 => ?_) (fun hf9 => ?_)
      · exact J_vret (pc := 23) dX8_stillRow_23 rfl (⟨rw_2, ⟨h19_7, h20_7, h21_7, h22_7, hb_7, hbl_7, hb3_7⟩, hF4, gr5, (by intro p hp; exact hv2_0 p (by omega))⟩)
      · refine J_aload_n (pc := 10) dX8_stillRow_10 rfl rfl rfl ?_
        refine J_get (pc := 11) (k := 2) dX8_stillRow_11 kC9 (by decide) ff_X8_17 h19_7 rfl ?_
        refine J_iload_n (pc := 14) dX8_stillRow_14 rfl rfl ?_
        refine J_iload_n (pc := 15) dX8_stillRow_15 rfl rfl ?_
        refine J_iastF (pc := 16) dX8_stillRow_16 h21_7 (by omega) (by decide) (fun w10 hln10 hc10 hne10 => ?_)
        have hg10 : ∀ i, (up rw_2 c1 c1) i < 7 := up_b gr5 (by omega)
        have h19_10 := (hne10 19 (by omega)).trans h19_7
        have h20_10 := (hne10 20 (by omega)).trans h20_7
        have h22_10 := (hne10 22 (by omega)).trans h22_7
        have hb_10 := (hne10 _ (by omega)).trans hb_7
        have hF10 := hF4.st hln10 hne10 (Or.inl (by decide))
        refine J_iincN (pc := 17) (b := 1) dX8_stillRow_17 rfl (by decide) (by decide) rfl ?_
        show J X mX8_stillRow d kc ks 20 [some (.ref 19), some (.int (nI (c1 + 1)))] [] w10 _
        refine J_goto (pc := 20) (tgt := 2) dX8_stillRow_20 (by decide) ?_
        exact J_sub (L' := [some (.ref 19), some (.int (nI (c1 + 1)))]) ⟨rfl, ⟨rfl, trivial⟩⟩ (ihlp2_1 w10 (up rw_2 c1 c1) (c1 + 1) ⟨h19_10, h20_10, hc10, h22_10, hb_10, hbl_7, hb3_7⟩ hF10 hg10 (by intro p hp; by_cases e : p = c1; (subst e; exact up_s _ _ _); (rw [up_n e]; exact hv2_0 p (by omega))) (by first | assumption | omega) (by omega))
  exact J_sub (L' := [some (.ref 19), some (.int (nI 0))]) ⟨rfl, ⟨rfl, trivial⟩⟩ (lp2_1 _ w rw 0 ⟨h19, h20, h21, h22, hbb, hbl, hb3⟩ hF gr (by intro p hp; omega) (by first | assumption | omega) (Nat.lt_succ_self _))
end
section
/-! contracts of the reference: rspec3 -/
set_option maxRecDepth 100000 in
set_option maxHeartbeats 4000000 in
theorem c_X8_areUnlike {X : jX} (hs : X.1.stackTraces = false) {d : Nat} (hd : 1 ≤ d) {n : Nat} {mv rw nx : Nat → Nat} {b : Nat} {bt : List Int32} {kn en dn rf kk th : Int32} {w : List jC} (hR : RM n mv rw nx b bt kn en dn rf kk th w) (hn1 : 2 ≤ n) (hn2 : n ≤ 7) (gm : ∀ i, mv i < 7) (gr : ∀ i, rw i < 7) (gx : ∀ i, nx i < 7) (a : Nat) (c : Nat) (hy0 : a < 6) (hy1 : c < 6) {kc ks : Nat} : jMet X mX8_areUnlike d kc ks [.ref 19, .int (nI a), .int (nI c)] w (pI (fun v => ∃ k : Nat, v = nI k ∧ k < 2) (fun w' => w' = w)) := by
  refine jMet_of hs (by decide +kernel) (Nat.le_of_ble_eq_true rfl) (L := [some (.ref 19), some (.int (nI a)), some (.int (nI c)), none]) rfl ?_
  have hfc := fc_7 hn2
  have hfp := fc_pos n
  obtain ⟨h19, h20, h21, h22, hbb, hbl, hb3⟩ := hR
  have hF : FR b b w w := FR.rf
  refine J_iconst (pc := 0) (v := nI 0) dX8_areUnlike_0 (by decide) ?_
  refine J_istore_n (pc := 1) dX8_areUnlike_1 rfl (by decide) rfl ?_
  show J X mX8_areUnlike d kc ks 2 [some (.ref 19), some (.int (nI a)), some (.int (nI c)), some (.int (nI 0))] [] w _
  have lp2_1 : ∀ (fuel : Nat) (c3 : Nat), (c3 ≤ n) → (n - c3 < fuel) → J X mX8_areUnlike d kc ks 2 [some (.ref 19), some (.int (nI a)), some (.int (nI c)), some (.int (nI c3))] [] w (pI (fun v => ∃ k : Nat, v = nI k ∧ k < 2) (fun w' => w' = w)) := by
    intro fuellp2_1
    induction fuellp2_1 with
    | zero => intros; omega
    | succ fuellp2_1 ihlp2_1 =>
      intro c3 hv2_0 hf2
      refine J_iload_n (pc := 2) dX8_areUnlike_2 rfl rfl ?_
      refine J_aload_n (pc := 3) dX8_areUnlike_3 rfl rfl rfl ?_
      refine J_get (pc := 4) (k := 0) dX8_areUnlike_4 kC9 (by decide) ff_X8_7 h19 rfl ?_
      refine J_icmp_geN (pc := 7) (tgt := 33) dX8_areUnlike_7 (by decide) (by omega) (by omega) (fun ht3 => ?_) (fun hf4 => ?_)
      · refine J_iconst (pc := 33) (v := nI 0) dX8_areUnlike_33 (by decide) ?_
        exact J_zret (pc := 34) dX8_areUnlike_34 rfl (nar_b (by first | decide | omega)) ⟨⟨0, rfl, by omega⟩, rfl⟩
      · refine J_aload_n (pc := 10) dX8_areUnlike_10 rfl rfl rfl ?_
        refine J_iload_n (pc := 11) dX8_areUnlike_11 rfl rfl ?_
        refine J_iload_n (pc := 12) dX8_areUnlike_12 rfl rfl ?_
        refine J_callV0 (pc := 13) (M := mX8_areUnlike) (as := [.int (nI a), .int (nI c3)]) dX8_areUnlike_13 fw_X8_at fl_X8_82 fm_X8_at fe_X8_at h19 (by decide) rfl rfl rfl (c_X8_at hs (d := d - 1) (by omega) (w := w) (n := n) (mv := mv) (rw := rw) (nx := nx) (b := b) (bt := bt) (kn := kn) (en := en) (dn := dn) (rf := rf) (kk := kk) (th := th) ⟨h19, h20, h21, h22, hbb, hbl, hb3⟩ hn1 hn2 gm gr gx a c3 (by first | assumption | omega) (by first | assumption | omega) (kc := 0) (ks := 0)) (by omega) (st := []) (Nat.le_of_ble_eq_true rfl) rfl (kr_P fun v5 hv5 => ?_) kx_I
        subst hv5
        have hq6 := gm (a * 7 + c3)
        refine J_aload_n (pc := 16) dX8_areUnlike_16 rfl rfl rfl ?_
        refine J_iload_n (pc := 17) dX8_areUnlike_17 rfl rfl ?_
        refine J_iload_n (pc := 18) dX8_areUnlike_18 rfl rfl ?_
        refine J_callV0 (pc := 19) (M := mX8_areUnlike) (as := [.int (nI c), .int (nI c3)]) dX8_areUnlike_19 fw_X8_at fl_X8_82 fm_X8_at fe_X8_at h19 (by decide) rfl rfl rfl (c_X8_at hs (d := d - 1) (by omega) (w := w) (n := n) (mv := mv) (rw := rw) (nx := nx) (b := b) (bt := bt) (kn := kn) (en := en) (dn := dn) (rf := rf) (kk := kk) (th := th) ⟨h19, h20, h21, h22, hbb, hbl, hb3⟩ hn1 hn2 gm gr gx c c3 (by first | assumption | omega) (by first | assumption | omega) (kc := 0) (ks := 0)) (by omega) (st := [.int (nI (mv (a * 7 + c3)))]) (Nat.le_of_ble_eq_true rfl) rfl (kr_P fun v7 hv7 => ?_) kx_I
        subst hv7
        have hq8 := gm (c * 7 + c3)
        refine J_icmp_eqN (pc := 22) (tgt := 27) dX8_areUnlike_22 (by decide) (by omega) (by omega) (fun ht9 => ?_) (fun hf10 => ?_)
        · refine J_iincN (pc := 27) (b := 1) dX8_areUnlike_27 rfl (by decide) (by decide) rfl ?_
          show J X mX8_areUnlike d kc ks 30 [some (.ref 19), some (.int (nI a)), some (.int (nI c)), some (.int (nI (c3 + 1)))] [] w _
          refine J_goto (pc := 30) (tgt := 2) dX8_areUnlike_30 (by decide) ?_
          exact J_sub (L' := [some (.ref 19), some (.int (nI a)), some (.int (nI c)), some (.int (nI (c3 + 1)))]) ⟨rfl, ⟨rfl, ⟨rfl, ⟨rfl, trivial⟩⟩⟩⟩ (ihlp2_1 (c3 + 1) (by first | assumption | omega) (by omega))
        · refine J_iconst (pc := 25) (v := nI 1) dX8_areUnlike_25 (by decide) ?_
          exact J_zret (pc := 26) dX8_areUnlike_26 rfl (nar_b (by first | decide | omega)) ⟨⟨1, rfl, by omega⟩, rfl⟩
  exact J_sub (L' := [some (.ref 19), some (.int (nI a)), some (.int (nI c)), some (.int (nI 0))]) ⟨rfl, ⟨rfl, ⟨rfl, ⟨rfl, trivial⟩⟩⟩⟩ (lp2_1 _ 0 (by first | assumption | omega) (Nat.lt_succ_self _))
end
section
/-! contracts of the reference: rspec3 -/
set_option maxRecDepth 100000 in
set_option maxHeartbeats 4000000 in
theorem c_X8_count {X : jX} (hs : X.1.stackTraces = false) {d : Nat} (hd : 0 ≤ d) {n : Nat} {mv rw nx : Nat → Nat} {b : Nat} {bt : List Int32} {kn en dn rf kk th : Int32} {w : List jC} (hR : RM n mv rw nx b bt kn en dn rf kk th w) (hn1 : 2 ≤ n) (hn2 : n ≤ 7) (gm : ∀ i, mv i < 7) (gr : ∀ i, rw i < 7) (gx : ∀ i, nx i < 7) {kc ks : Nat} : jMet X mX8_count d kc ks [.ref 19] w (pI (fun v => v = nI n) (fun w' => RM n mv rw nx b bt kn en dn rf kk (nI 0) w' ∧ FR b b w w')) := by
  refine jMet_of hs (by decide +kernel) (Nat.le_of_ble_eq_true rfl) (L := [some (.ref 19)]) rfl ?_
  have hfc := fc_7 hn2
  have hfp := fc_pos n
  obtain ⟨h19, h20, h21, h22, hbb, hbl, hb3⟩ := hR
  have hF : FR b b w w := FR.rf
  refine J_aload_n (pc := 0) dX8_count_0 rfl rfl rfl ?_
  refine J_iconst (pc := 1) (v := nI 0) dX8_count_1 (by decide) ?_
  refine J_putW (pc := 2) (k := 10) dX8_count_2 kC9 (by decide) ff_X8_32 (Or.inl rfl) ⟨rfl, rfl⟩ h19 (by show 10 < 11; decide) (fun w1 hln1 hw1 hne1 => ?_)
  have h19_1 : w1[19]? = some (.inr (9, [.int (nI n), .ref 20, .ref 21, .ref 22, .ref b, .int kn, .int en, .int dn, .int rf, .int kk, .int (nI 0)])) := hw1
  have h20_1 := (hne1 20 (by omega)).trans h20
  have h21_1 := (hne1 21 (by omega)).trans h21
  have h22_1 := (hne1 22 (by omega)).trans h22
  have hb_1 := (hne1 _ (by omega)).trans hbb
  have hF1 := hF.st hln1 hne1 (Or.inl (by decide))
  refine J_aload_n (pc := 5) dX8_count_5 rfl rfl rfl ?_
  refine J_get (pc := 6) (k := 0) dX8_count_6 kC9 (by decide) ff_X8_7 h19_1 rfl ?_
  exact J_iret (pc := 9) dX8_count_9 rfl ⟨rfl, ⟨⟨h19_1, h20_1, h21_1, h22_1, hb_1, hbl, hb3⟩, hF1⟩⟩
set_option maxRecDepth 100000 in
set_option maxHeartbeats 4000000 in
theorem c_X8_staysNow {X : jX} (hs : X.1.stackTraces = false) {d : Nat} (hd : 1 ≤ d) {n : Nat} {mv rw nx : Nat → Nat} {b : Nat} {bt : List Int32} {kn en dn rf kk th : Int32} {w : List jC} (hR : RM n mv rw nx b bt kn en dn rf kk th w) (hn1 : 2 ≤ n) (hn2 : n ≤ 7) (gm : ∀ i, mv i < 7) (gr : ∀ i, rw i < 7) (gx : ∀ i, nx i < 7) (a : Nat) (hy0 : a < 6) {kc ks : Nat} : jMet X mX8_staysNow d kc ks [.ref 19, .int (nI a)] w (pI (fun _ => True) (fun w' => w' = w)) := by
  refine jMet_of hs (by decide +kernel) (Nat.le_of_ble_eq_true rfl) (L := [some (.ref 19), some (.int (nI a)), none, none]) rfl ?_
  have hfc := fc_7 hn2
  have hfp := fc_pos n
  obtain ⟨h19, h20, h21, h22, hbb, hbl, hb3⟩ := hR
  have hF : FR b b w w := FR.rf
  refine J_iconst (pc := 0) (v := nI 0) dX8_staysNow_0 (by decide) ?_
  refine J_istore_n (pc := 1) dX8_staysNow_1 rfl (by decide) rfl ?_
  show J X mX8_staysNow d kc ks 2 [some (.ref 19), some (.int (nI a)), some (.int (nI 0)), none] [] w _
  refine J_iconst (pc := 2) (v := nI 0) dX8_staysNow_2 (by decide) ?_
  refine J_istore_n (pc := 3) dX8_staysNow_3 rfl (by decide) rfl ?_
  show J X mX8_staysNow d kc ks 4 [some (.ref 19), some (.int (nI a)), some (.int (nI 0)), some (.int (nI 0))] [] w _
  have lp4_1 : ∀ (fuel : Nat) (z2 : Int32) (c3 : Nat), (c3 ≤ n) → (n - c3 < fuel) → J X mX8_staysNow d kc ks 4 [some (.ref 19), some (.int (nI a)), some (.int z2), some (.int (nI c3))] [] w (pI (fun _ => True) (fun w' => w' = w)) := by
    intro fuellp4_1
    induction fuellp4_1 with
    | zero => intros; omega
    | succ fuellp4_1 ihlp4_1 =>
      intro z2 c3 hv4_0 hf2
      refine J_iload_n (pc := 4) dX8_staysNow_4 rfl rfl ?_
      refine J_aload_n (pc := 5) dX8_staysNow_5 rfl rfl rfl ?_
      refine J_get (pc := 6) (k := 0) dX8_staysNow_6 kC9 (by decide) ff_X8_7 h19 rfl ?_
      refine J_icmp_geN (pc := 9) (tgt := 38) dX8_staysNow_9 (by decide) (by omega) (by omega) (fun ht3 => ?_) (fun hf4 => ?_)
      · refine J_iload_n (pc := 38) dX8_staysNow_38 rfl rfl ?_
        exact J_iret (pc := 39) dX8_staysNow_39 rfl ⟨trivial, rfl⟩
      · refine J_iload_n (pc := 12) dX8_staysNow_12 rfl rfl ?_
        refine J_aload_n (pc := 13) dX8_staysNow_13 rfl rfl rfl ?_
        refine J_iload_n (pc := 14) dX8_staysNow_14 rfl rfl ?_
        refine J_iload_n (pc := 15) dX8_staysNow_15 rfl rfl ?_
        refine J_callV0 (pc := 16) (M := mX8_staysNow) (as := [.int (nI a), .int (nI c3)]) dX8_staysNow_16 fw_X8_at fl_X8_82 fm_X8_at fe_X8_at h19 (by decide) rfl rfl rfl (c_X8_at hs (d := d - 1) (by omega) (w := w) (n := n) (mv := mv) (rw := rw) (nx := nx) (b := b) (bt := bt) (kn := kn) (en := en) (dn := dn) (rf := rf) (kk := kk) (th := th) ⟨h19, h20, h21, h22, hbb, hbl, hb3⟩ hn1 hn2 gm gr gx a c3 (by first | assumption | omega) (by first | assumption | omega) (kc := 0) (ks := 0)) (by omega) (st := [.int z2]) (Nat.le_of_ble_eq_true rfl) rfl (kr_P fun v5 hv5 => ?_) kx_I
        subst hv5
        have hq6 := gm (a * 7 + c3)
        refine J_iload_n (pc := 19) dX8_staysNow_19 rfl rfl ?_
        refine J_icmp_neN (pc := 20) (tgt := 27) dX8_staysNow_20 (by decide) (by omega) (by omega) (fun ht7 => ?_) (fun hf8 => ?_)
        · refine J_iconst (pc := 27) (v := nI 0) dX8_staysNow_27 (by decide) ?_
          refine J_iload_n (pc := 28) dX8_staysNow_28 rfl rfl ?_
          refine J_ishl (pc := 29) dX8_staysNow_29 (J_absI fun x9 => ?_)
          refine J_ior (pc := 30) dX8_staysNow_30 (J_absI fun x10 => ?_)
          refine J_istore_n (pc := 31) dX8_staysNow_31 rfl (by decide) rfl ?_
          show J X mX8_staysNow d kc ks 32 [some (.ref 19), some (.int (nI a)), some (.int x10), some (.int (nI c3))] [] w _
          refine J_iincN (pc := 32) (b := 1) dX8_staysNow_32 rfl (by decide) (by decide) rfl ?_
          show J X mX8_staysNow d kc ks 35 [some (.ref 19), some (.int (nI a)), some (.int x10), some (.int (nI (c3 + 1)))] [] w _
          refine J_goto (pc := 35) (tgt := 4) dX8_staysNow_35 (by decide) ?_
          exact J_sub (L' := [some (.ref 19), some (.int (nI a)), some (.int x10), some (.int (nI (c3 + 1)))]) ⟨rfl, ⟨rfl, ⟨rfl, ⟨rfl, trivial⟩⟩⟩⟩ (ihlp4_1 x10 (c3 + 1) (by first | assumption | omega) (by omega))
        · refine J_iconst (pc := 23) (v := nI 1) dX8_staysNow_23 (by decide) ?_
          refine J_goto (pc := 24) (tgt := 28) dX8_staysNow_24 (by decide) ?_
          refine J_iload_n (pc := 28) dX8_staysNow_28 rfl rfl ?_
          refine J_ishl (pc := 29) dX8_staysNow_29 (J_absI fun x11 => ?_)
          refine J_ior (pc := 30) dX8_staysNow_30 (J_absI fun x12 => ?_)
          refine J_istore_n (pc := 31) dX8_staysNow_31 rfl (by decide) rfl ?_
          show J X mX8_staysNow d kc ks 32 [some (.ref 19), some (.int (nI a)), some (.int x12), some (.int (nI c3))] [] w _
          refine J_iincN (pc := 32) (b := 1) dX8_staysNow_32 rfl (by decide) (by decide) rfl ?_
          show J X mX8_staysNow d kc ks 35 [some (.ref 19), some (.int (nI a)), some (.int x12), some (.int (nI (c3 + 1)))] [] w _
          refine J_goto (pc := 35) (tgt := 4) dX8_staysNow_35 (by decide) ?_
          exact J_sub (L' := [some (.ref 19), some (.int (nI a)), some (.int x12), some (.int (nI (c3 + 1)))]) ⟨rfl, ⟨rfl, ⟨rfl, ⟨rfl, trivial⟩⟩⟩⟩ (ihlp4_1 x12 (c3 + 1) (by first | assumption | omega) (by omega))
  exact J_sub (L' := [some (.ref 19), some (.int (nI a)), some (.int (nI 0)), some (.int (nI 0))]) ⟨rfl, ⟨rfl, ⟨rfl, ⟨rfl, trivial⟩⟩⟩⟩ (lp4_1 _ (nI 0) 0 (by first | assumption | omega) (Nat.lt_succ_self _))
set_option maxRecDepth 100000 in
set_option maxHeartbeats 4000000 in
theorem c_X8_number {X : jX} (hs : X.1.stackTraces = false) {d : Nat} (hd : 2 ≤ d) {n : Nat} {mv rw nx : Nat → Nat} {b : Nat} {bt : List Int32} {kn en dn rf kk th : Int32} {w : List jC} (hR : RM n mv rw nx b bt kn en dn rf kk th w) (hn1 : 2 ≤ n) (hn2 : n ≤ 7) (gm : ∀ i, mv i < 7) (gr : ∀ i, rw i < 7) (gx : ∀ i, nx i < 7) (a : Int32) {kc ks : Nat} : jMet X mX8_number d kc ks [.ref 19, .int a] w (pI (fun _ => True) (fun w' => ∃ (th' : Int32), RM n mv rw nx b bt kn en dn rf kk th' w' ∧ FR b b w w')) := by
  refine jMet_of hs (by decide +kernel) (Nat.le_of_ble_eq_true rfl) (L := [some (.ref 19), some (.int a)]) rfl ?_
  have hfc := fc_7 hn2
  have hfp := fc_pos n
  obtain ⟨h19, h20, h21, h22, hbb, hbl, hb3⟩ := hR
  have hF : FR b b w w := FR.rf
  refine J_aload_n (pc := 0) dX8_number_0 rfl rfl rfl ?_
  refine J_iload_n (pc := 1) dX8_number_1 rfl rfl ?_
  refine J_callS0 (pc := 2) (M := mX8_number) (as := [.int a]) dX8_number_2 fw_X8_isCell fl_X8_108 fs_X8_isCell rfl (c_X8_isCell hs (d := d - 1) (by omega) (w := w) a (kc := 0) (ks := 0)) (by omega) (st := [.ref 19]) (Nat.le_of_ble_eq_true rfl) rfl (kr_P fun v1 hv1 => ?_) kx_I
  rcases hv1 with ⟨rfl, hk1_0⟩ | ⟨q1, rfl, hk1_0, rfl⟩
  · refine J_if_neN (pc := 5) (tgt := 12) dX8_number_5 (by decide) (by decide) (fun h => absurd h (by decide)) (fun _ => ?_)
    refine J_iconst (pc := 8) (v := nI 1) dX8_number_8 (by decide) ?_
    refine J_goto (pc := 9) (tgt := 13) dX8_number_9 (by decide) ?_
    refine J_callV0 (pc := 13) (M := mX8_number) (as := [.int (nI 1)]) dX8_number_13 fw_X8_isThrown_ fl_X8_105 fm_X8_isThrown_ fe_X8_isThrown_ h19 (by decide) rfl rfl rfl (c_X8_isThrown_ hs (d := d - 1) (by omega) (w := w) (n := n) (mv := mv) (rw := rw) (nx := nx) (b := b) (bt := bt) (kn := kn) (en := en) (dn := dn) (rf := rf) (kk := kk) (th := th) ⟨h19, h20, h21, h22, hbb, hbl, hb3⟩ hn1 hn2 gm gr gx 1 (by first | assumption | omega) (kc := 0) (ks := 0)) (by omega) (st := []) (Nat.le_of_ble_eq_true rfl) rfl (kr_I fun v2 w2 hv2 hw2 => ?_) kx_I
    obtain ⟨hR2, hFc2⟩ := hw2
    obtain ⟨h19_2, h20_2, h21_2, h22_2, hbb_2, hbl_2, hb3_2⟩ := hR2
    have hF2 := hF.tr hFc2
    subst hv2
    show J X mX8_number d kc ks 16 [some (.ref 19), some (.int a)] [.int (nI 1)] w2 _
    refine J_if_eqN (pc := 16) (tgt := 23) dX8_number_16 (by decide) (by decide) (fun h => absurd h (by decide)) (fun _ => ?_)
    refine J_iconst (pc := 19) (v := nI 0) dX8_number_19 (by decide) ?_
    refine J_goto (pc := 20) (tgt := 35) dX8_number_20 (by decide) ?_
    exact J_iret (pc := 35) dX8_number_35 rfl ⟨trivial, ⟨nI (tW 1 0), ⟨h19_2, h20_2, h21_2, h22_2, hbb_2, hbl_2, hb3_2⟩, hF2⟩⟩
  · refine J_if_neN (pc := 5) (tgt := 12) dX8_number_5 (by decide) (by decide) (fun _ => ?_) (fun h => absurd h (by decide))
    refine J_iconst (pc := 12) (v := nI 0) dX8_number_12 (by decide) ?_
    refine J_callV0 (pc := 13) (M := mX8_number) (as := [.int (nI 0)]) dX8_number_13 fw_X8_isThrown_ fl_X8_105 fm_X8_isThrown_ fe_X8_isThrown_ h19 (by decide) rfl rfl rfl (c_X8_isThrown_ hs (d := d - 1) (by omega) (w := w) (n := n) (mv := mv) (rw := rw) (nx := nx) (b := b) (bt := bt) (kn := kn) (en := en) (dn := dn) (rf := rf) (kk := kk) (th := th) ⟨h19, h20, h21, h22, hbb, hbl, hb3⟩ hn1 hn2 gm gr gx 0 (by first | assumption | omega) (kc := 0) (ks := 0)) (by omega) (st := []) (Nat.le_of_ble_eq_true rfl) rfl (kr_I fun v3 w3 hv3 hw3 => ?_) kx_I
    obtain ⟨hR3, hFc3⟩ := hw3
    obtain ⟨h19_3, h20_3, h21_3, h22_3, hbb_3, hbl_3, hb3_3⟩ := hR3
    have hF3 := hF.tr hFc3
    subst hv3
    show J X mX8_number d kc ks 16 [some (.ref 19), some (.int (nI q1))] [.int (nI 0)] w3 _
    refine J_if_eqN (pc := 16) (tgt := 23) dX8_number_16 (by decide) (by decide) (fun _ => ?_) (fun h => absurd h (by decide))
    refine J_aload_n (pc := 23) dX8_number_23 rfl rfl rfl ?_
    refine J_aload_n (pc := 24) dX8_number_24 rfl rfl rfl ?_
    refine J_get (pc := 25) (k := 1) dX8_number_25 kC9 (by decide) ff_X8_13 h19_3 rfl ?_
    refine J_iload_n (pc := 28) dX8_number_28 rfl rfl ?_
    refine J_bipush (pc := 29) (v := nI 7) dX8_number_29 (by decide) ?_
    refine J_imulN (pc := 31) dX8_number_31 ?_
    refine J_callV0 (pc := 32) (M := mX8_number) (as := [.ref 20, .int (nI (q1 * 7))]) dX8_number_32 fw_X8_numberOf fl_X8_45 fm_X8_numberOf fe_X8_numberOf h19_3 (by decide) rfl rfl rfl (c_X8_numberOf_at20 hs (d := d - 1) (by omega) (w := w3) (n := n) (mv := mv) (rw := rw) (nx := nx) (b := b) (bt := bt) (kn := kn) (en := en) (dn := dn) (rf := rf) (kk := kk) (th := nI (tW 0 0)) ⟨h19_3, h20_3, h21_3, h22_3, hbb_3, hbl_3, hb3_3⟩ hn1 hn2 gm gr gx (q1 * 7) (by first | assumption | omega) (kc := 0) (ks := 0)) (by omega) (st := []) (Nat.le_of_ble_eq_true rfl) rfl (kr_P fun v4 hv4 => ?_) kx_I
    subst hv4
    have hq5 := nuF_b mv (q1 * 7) n
    exact J_iret (pc := 35) dX8_number_35 rfl ⟨trivial, ⟨nI (tW 0 0), ⟨h19_3, h20_3, h21_3, h22_3, hbb_3, hbl_3, hb3_3⟩, hF3⟩⟩
set_option maxRecDepth 100000 in
set_option maxHeartbeats 4000000 in
theorem c_X8_goes {X : jX} (hs : X.1.stackTraces = false) {d : Nat} (hd : 2 ≤ d) {n : Nat} {mv rw nx : Nat → Nat} {b : Nat} {bt : List Int32} {kn en dn rf kk th : Int32} {w : List jC} (hR : RM n mv rw nx b bt kn en dn rf kk th w) (hn1 : 2 ≤ n) (hn2 : n ≤ 7) (gm : ∀ i, mv i < 7) (gr : ∀ i, rw i < 7) (gx : ∀ i, nx i < 7) (a : Int32) (c : Int32) {kc ks : Nat} : jMet X mX8_goes d kc ks [.ref 19, .int a, .int c] w (pI (fun _ => True) (fun w' => ∃ (th' : Int32), RM n mv rw nx b bt kn en dn rf kk th' w' ∧ FR b b w w')) := by
  refine jMet_of hs (by decide +kernel) (Nat.le_of_ble_eq_true rfl) (L := [some (.ref 19), some (.int a), some (.int c)]) rfl ?_
  have hfc := fc_7 hn2
  have hfp := fc_pos n
  obtain ⟨h19, h20, h21, h22, hbb, hbl, hb3⟩ := hR
  have hF : FR b b w w := FR.rf
  refine J_aload_n (pc := 0) dX8_goes_0 rfl rfl rfl ?_
  refine J_iload_n (pc := 1) dX8_goes_1 rfl rfl ?_
  refine J_callS0 (pc := 2) (M := mX8_goes) (as := [.int a]) dX8_goes_2 fw_X8_isCell fl_X8_108 fs_X8_isCell rfl (c_X8_isCell hs (d := d - 1) (by omega) (w := w) a (kc := 0) (ks := 0)) (by omega) (st := [.ref 19]) (Nat.le_of_ble_eq_true rfl) rfl (kr_P fun v1 hv1 => ?_) kx_I
  rcases hv1 with ⟨rfl, hk1_0⟩ | ⟨q1, rfl, hk1_0, rfl⟩
  · refine J_if_eqN (pc := 5) (tgt := 16) dX8_goes_5 (by decide) (by decide) (fun _ => ?_) (fun h => absurd h (by decide))
    refine J_iconst (pc := 16) (v := nI 1) dX8_goes_16 (by decide) ?_
    refine J_goto (pc := 17) (tgt := 21) dX8_goes_17 (by decide) ?_
    refine J_callV0 (pc := 21) (M := mX8_goes) (as := [.int (nI 1)]) dX8_goes_21 fw_X8_isThrown_ fl_X8_105 fm_X8_isThrown_ fe_X8_isThrown_ h19 (by decide) rfl rfl rfl (c_X8_isThrown_ hs (d := d - 1) (by omega) (w := w) (n := n) (mv := mv) (rw := rw) (nx := nx) (b := b) (bt := bt) (kn := kn) (en := en) (dn := dn) (rf := rf) (kk := kk) (th := th) ⟨h19, h20, h21, h22, hbb, hbl, hb3⟩ hn1 hn2 gm gr gx 1 (by first | assumption | omega) (kc := 0) (ks := 0)) (by omega) (st := []) (Nat.le_of_ble_eq_true rfl) rfl (kr_I fun v2 w2 hv2 hw2 => ?_) kx_I
    obtain ⟨hR2, hFc2⟩ := hw2
    obtain ⟨h19_2, h20_2, h21_2, h22_2, hbb_2, hbl_2, hb3_2⟩ := hR2
    have hF2 := hF.tr hFc2
    subst hv2
    show J X mX8_goes d kc ks 24 [some (.ref 19), some (.int a), some (.int c)] [.int (nI 1)] w2 _
    refine J_if_eqN (pc := 24) (tgt := 31) dX8_goes_24 (by decide) (by decide) (fun h => absurd h (by decide)) (fun _ => ?_)
    refine J_iconst (pc := 27) (v := nI 0) dX8_goes_27 (by decide) ?_
    refine J_goto (pc := 28) (tgt := 37) dX8_goes_28 (by decide) ?_
    exact J_iret (pc := 37) dX8_goes_37 rfl ⟨trivial, ⟨nI (tW 1 0), ⟨h19_2, h20_2, h21_2, h22_2, hbb_2, hbl_2, hb3_2⟩, hF2⟩⟩
  · refine J_if_eqN (pc := 5) (tgt := 16) dX8_goes_5 (by decide) (by decide) (fun h => absurd h (by decide)) (fun _ => ?_)
    refine J_aload_n (pc := 8) dX8_goes_8 rfl rfl rfl ?_
    refine J_iload_n (pc := 9) dX8_goes_9 rfl rfl ?_
    refine J_callV0 (pc := 10) (M := mX8_goes) (as := [.int c]) dX8_goes_10 fw_X8_isPoint fl_X8_118 fm_X8_isPoint fe_X8_isPoint h19 (by decide) rfl rfl rfl (c_X8_isPoint hs (d := d - 1) (by omega) (w := w) (n := n) (mv := mv) (rw := rw) (nx := nx) (b := b) (bt := bt) (kn := kn) (en := en) (dn := dn) (rf := rf) (kk := kk) (th := th) ⟨h19, h20, h21, h22, hbb, hbl, hb3⟩ hn1 hn2 gm gr gx c (kc := 0) (ks := 0)) (by omega) (st := [.ref 19]) (Nat.le_of_ble_eq_true rfl) rfl (kr_P fun v3 hv3 => ?_) kx_I
    rcases hv3 with ⟨rfl, hk3_0⟩ | ⟨q3, rfl, hk3_0, rfl⟩
    · refine J_if_neN (pc := 13) (tgt := 20) dX8_goes_13 (by decide) (by decide) (fun h => absurd h (by decide)) (fun _ => ?_)
      refine J_iconst (pc := 16) (v := nI 1) dX8_goes_16 (by decide) ?_
      refine J_goto (pc := 17) (tgt := 21) dX8_goes_17 (by decide) ?_
      refine J_callV0 (pc := 21) (M := mX8_goes) (as := [.int (nI 1)]) dX8_goes_21 fw_X8_isThrown_ fl_X8_105 fm_X8_isThrown_ fe_X8_isThrown_ h19 (by decide) rfl rfl rfl (c_X8_isThrown_ hs (d := d - 1) (by omega) (w := w) (n := n) (mv := mv) (rw := rw) (nx := nx) (b := b) (bt := bt) (kn := kn) (en := en) (dn := dn) (rf := rf) (kk := kk) (th := th) ⟨h19, h20, h21, h22, hbb, hbl, hb3⟩ hn1 hn2 gm gr gx 1 (by first | assumption | omega) (kc := 0) (ks := 0)) (by omega) (st := []) (Nat.le_of_ble_eq_true rfl) rfl (kr_I fun v4 w4 hv4 hw4 => ?_) kx_I
      obtain ⟨hR4, hFc4⟩ := hw4
      obtain ⟨h19_4, h20_4, h21_4, h22_4, hbb_4, hbl_4, hb3_4⟩ := hR4
      have hF4 := hF.tr hFc4
      subst hv4
      show J X mX8_goes d kc ks 24 [some (.ref 19), some (.int (nI q1)), some (.int c)] [.int (nI 1)] w4 _
      refine J_if_eqN (pc := 24) (tgt := 31) dX8_goes_24 (by decide) (by decide) (fun h => absurd h (by decide)) (fun _ => ?_)
      refine J_iconst (pc := 27) (v := nI 0) dX8_goes_27 (by decide) ?_
      refine J_goto (pc := 28) (tgt := 37) dX8_goes_28 (by decide) ?_
      exact J_iret (pc := 37) dX8_goes_37 rfl ⟨trivial, ⟨nI (tW 1 0), ⟨h19_4, h20_4, h21_4, h22_4, hbb_4, hbl_4, hb3_4⟩, hF4⟩⟩
    · refine J_if_neN (pc := 13) (tgt := 20) dX8_goes_13 (by decide) (by decide) (fun _ => ?_) (fun h => absurd h (by decide))
      refine J_iconst (pc := 20) (v := nI 0) dX8_goes_20 (by decide) ?_
      refine J_callV0 (pc := 21) (M := mX8_goes) (as := [.int (nI 0)]) dX8_goes_21 fw_X8_isThrown_ fl_X8_105 fm_X8_isThrown_ fe_X8_isThrown_ h19 (by decide) rfl rfl rfl (c_X8_isThrown_ hs (d := d - 1) (by omega) (w := w) (n := n) (mv := mv) (rw := rw) (nx := nx) (b := b) (bt := bt) (kn := kn) (en := en) (dn := dn) (rf := rf) (kk := kk) (th := th) ⟨h19, h20, h21, h22, hbb, hbl, hb3⟩ hn1 hn2 gm gr gx 0 (by first | assumption | omega) (kc := 0) (ks := 0)) (by omega) (st := []) (Nat.le_of_ble_eq_true rfl) rfl (kr_I fun v5 w5 hv5 hw5 => ?_) kx_I
      obtain ⟨hR5, hFc5⟩ := hw5
      obtain ⟨h19_5, h20_5, h21_5, h22_5, hbb_5, hbl_5, hb3_5⟩ := hR5
      have hF5 := hF.tr hFc5
      subst hv5
      show J X mX8_goes d kc ks 24 [some (.ref 19), some (.int (nI q1)), some (.int (nI q3))] [.int (nI 0)] w5 _
      refine J_if_eqN (pc := 24) (tgt := 31) dX8_goes_24 (by decide) (by decide) (fun _ => ?_) (fun h => absurd h (by decide))
      refine J_aload_n (pc := 31) dX8_goes_31 rfl rfl rfl ?_
      refine J_iload_n (pc := 32) dX8_goes_32 rfl rfl ?_
      refine J_iload_n (pc := 33) dX8_goes_33 rfl rfl ?_
      refine J_callV0 (pc := 34) (M := mX8_goes) (as := [.int (nI q1), .int (nI q3)]) dX8_goes_34 fw_X8_at fl_X8_82 fm_X8_at fe_X8_at h19_5 (by decide) rfl rfl rfl (c_X8_at hs (d := d - 1) (by omega) (w := w5) (n := n) (mv := mv) (rw := rw) (nx := nx) (b := b) (bt := bt) (kn := kn) (en := en) (dn := dn) (rf := rf) (kk := kk) (th := nI (tW 0 0)) ⟨h19_5, h20_5, h21_5, h22_5, hbb_5, hbl_5, hb3_5⟩ hn1 hn2 gm gr gx q1 q3 (by first | assumption | omega) (by first | assumption | omega) (kc := 0) (ks := 0)) (by omega) (st := []) (Nat.le_of_ble_eq_true rfl) rfl (kr_P fun v6 hv6 => ?_) kx_I
      subst hv6
      have hq7 := gm (q1 * 7 + q3)
      exact J_iret (pc := 37) dX8_goes_37 rfl ⟨trivial, ⟨nI (tW 0 0), ⟨h19_5, h20_5, h21_5, h22_5, hbb_5, hbl_5, hb3_5⟩, hF5⟩⟩
end
