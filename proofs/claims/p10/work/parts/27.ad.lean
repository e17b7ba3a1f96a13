/-! texts of the reference -/
set_option maxRecDepth 100000 in
set_option maxHeartbeats 40000000 in
theorem c_X8_list {X : jX} (hs : X.1.stackTraces = false) {d : Nat} (hd : 14 ≤ d) (hXO : XO X) {n : Nat} {mv rw nx : Nat → Nat} {b : Nat} {bt : List Int32} {kn en dn rf kk th : Int32} {w : List jC} (hR : RM n mv rw nx b bt kn en dn rf kk th w) (hn1 : 2 ≤ n) (hn2 : n ≤ 7) (gm : ∀ i, mv i < 7) (gr : ∀ i, rw i < 7) (gx : ∀ i, nx i < 7) (s : Int32) (c : Int32) (hy0 : PM n mv) (hy1 : KX n mv kn bt) {kc ks : Nat} (hkc : 55 ≤ kc) (hks : 3600 ≤ ks) : jMet X mX8_list d kc ks [.ref 19, .int s, .int c] w (pS (fun w' => ∃ (rw' nx' : Nat → Nat) (b' : Nat) (bt' : List Int32) (kn' en' th' : Int32), RM n mv rw' nx' b' bt' kn' en' dn rf kk th' w' ∧ FR b b' w w' ∧ (∀ i, rw' i < 7) ∧ (∀ i, nx' i < 7) ∧ KX n mv kn' bt')) := by
  refine jMet_of hs (by decide +kernel) (Nat.le_of_ble_eq_true rfl) (L := [some (.ref 19), some (.int s), some (.int c), none, none, none, none]) rfl ?_
  have hdm : 13 ≤ d - 1 := by omega
  have hdp : d - 1 + 1 ≤ d := by omega
  have hfc := fc_7 hn2
  have hfp := fc_pos n
  obtain ⟨h19, h20, h21, h22, hbb, hbl, hb3⟩ := hR
  have hF : FR b b w w := FR.rf
  have qL0 := gl h22
  have qL1 := gl hbb
  refine J_aload_n (pc := 0) dX8_list_0 rfl rfl rfl ?_
  refine J_iload_n (pc := 1) dX8_list_1 rfl rfl ?_
  refine J_callS0 (pc := 2) (M := mX8_list) (as := [.int s]) dX8_list_2 fw_X8_isSet fl_X8_134 fs_X8_isSet rfl (c_X8_isSet hs (d := d - 1) (Nat.le_trans (by decide) hdm) (w := w) s (kc := 0) (ks := 0)) hdp (st := [.ref 19]) (Nat.le_of_ble_eq_true rfl) rfl (kr_P fun v1 hv1 => ?_) kx_I
  rcases hv1 with ⟨rfl, hk1_0⟩ | ⟨q1, rfl, hk1_0, rfl⟩
  · refine J_if_eqN (pc := 5) (tgt := 12) dX8_list_5 (by decide) (by decide) (fun _ => ?_) (fun h => absurd h (by decide))
    refine J_iconst (pc := 12) (v := nI 1) dX8_list_12 (by decide) ?_
    refine J_goto (pc := 13) (tgt := 17) dX8_list_13 (by decide) ?_
    refine J_callV0 (pc := 17) (M := mX8_list) (as := [.int (nI 1)]) dX8_list_17 fw_X8_isThrown_ fl_X8_105 fm_X8_isThrown_ fe_X8_isThrown_ h19 (by decide) rfl rfl rfl (c_X8_isThrown_ hs (d := d - 1) (Nat.le_trans (by decide) hdm) (w := w) (n := n) (mv := mv) (rw := rw) (nx := nx) (b := b) (bt := bt) (kn := kn) (en := en) (dn := dn) (rf := rf) (kk := kk) (th := th) ⟨h19, h20, h21, h22, hbb, hbl, hb3⟩ hn1 hn2 gm gr gx 1 (by first | assumption | omega) (kc := 0) (ks := 0)) hdp (st := []) (Nat.le_of_ble_eq_true rfl) rfl (kr_I fun v2 w2 hv2 hw2 => ?_) kx_I
    obtain ⟨hR2, hFc2⟩ := hw2
    obtain ⟨h19_2, h20_2, h21_2, h22_2, hbb_2, hbl_2, hb3_2⟩ := hR2
    have hF2 := hF.tr hFc2
    subst hv2
    show J X mX8_list d kc ks 20 [some (.ref 19), some (.int s), some (.int c), none, none, none, none] [.int (nI 1)] w2 _
    refine J_if_eqN (pc := 20) (tgt := 26) dX8_list_20 (by decide) (by decide) (fun h => absurd h (by decide)) (fun _ => ?_)
    refine J_ldcS (pc := 23) (M := mX8_list) (a := 5) (tx := "") dX8_list_23 List.mem_cons_self ?_
    exact J_aret (pc := 25) dX8_list_25 rfl rfl rfl ⟨rfl, rw, nx, b, bt, kn, en, nI (tW 1 0), ⟨h19_2, h20_2, h21_2, h22_2, hbb_2, hbl_2, hb3_2⟩, hF2, gr, gx, (by first | assumption | exact KX_i (by assumption) (by omega) (by first | rfl | assumption))⟩
  · refine J_if_eqN (pc := 5) (tgt := 12) dX8_list_5 (by decide) (by decide) (fun h => absurd h (by decide)) (fun _ => ?_)
    refine J_iload_n (pc := 8) dX8_list_8 rfl rfl ?_
    refine J_if_ge (pc := 9) (tgt := 16) dX8_list_9 (by decide) (fun ht3 => ?_) (fun hf4 => ?_)
    · refine J_iconst (pc := 16) (v := nI 0) dX8_list_16 (by decide) ?_
      refine J_callV0 (pc := 17) (M := mX8_list) (as := [.int (nI 0)]) dX8_list_17 fw_X8_isThrown_ fl_X8_105 fm_X8_isThrown_ fe_X8_isThrown_ h19 (by decide) rfl rfl rfl (c_X8_isThrown_ hs (d := d - 1) (Nat.le_trans (by decide) hdm) (w := w) (n := n) (mv := mv) (rw := rw) (nx := nx) (b := b) (bt := bt) (kn := kn) (en := en) (dn := dn) (rf := rf) (kk := kk) (th := th) ⟨h19, h20, h21, h22, hbb, hbl, hb3⟩ hn1 hn2 gm gr gx 0 (by first | assumption | omega) (kc := 0) (ks := 0)) hdp (st := []) (Nat.le_of_ble_eq_true rfl) rfl (kr_I fun v5 w5 hv5 hw5 => ?_) kx_I
      obtain ⟨hR5, hFc5⟩ := hw5
      obtain ⟨h19_5, h20_5, h21_5, h22_5, hbb_5, hbl_5, hb3_5⟩ := hR5
      have hF5 := hF.tr hFc5
      subst hv5
      show J X mX8_list d kc ks 20 [some (.ref 19), some (.int (nI q1)), some (.int c), none, none, none, none] [.int (nI 0)] w5 _
      refine J_if_eqN (pc := 20) (tgt := 26) dX8_list_20 (by decide) (by decide) (fun _ => ?_) (fun h => absurd h (by decide))
      refine J_aload_n (pc := 26) dX8_list_26 rfl rfl rfl ?_
      refine J_iload_n (pc := 27) dX8_list_27 rfl rfl ?_
      refine J_callV (pc := 28) (M := mX8_list) (as := [.int (nI q1)]) dX8_list_28 fw_X8_group fl_X8_99 fm_X8_group fe_X8_group h19_5 (by decide) rfl rfl rfl (c_X8_group_ate hs (d := d - 1) (Nat.le_trans (by decide) hdm) (w := w5) (n := n) (mv := mv) (rw := rw) (nx := nx) (b := b) (bt := bt) (kn := kn) (en := en) (dn := dn) (rf := rf) (kk := kk) (th := nI (tW 0 0)) ⟨h19_5, h20_5, h21_5, h22_5, hbb_5, hbl_5, hb3_5⟩ hn1 hn2 gm gr gx q1 (by first | assumption | omega) (by first | assumption | omega) (by first | assumption | omega) (kc := 13) (ks := 2054) (Nat.le_refl _) (Nat.le_refl _)) hdp (by omega) (by omega) (st := []) (Nat.le_of_ble_eq_true rfl) rfl (kr_V fun w6 hw6 => ?_) kx_V
      obtain ⟨rw6, nx6, b6, bt6, kn6, en6, hR6, hFc6, hgrw6, hgnx6, hp6_0, hp6_1⟩ := hw6
      obtain ⟨h19_6, h20_6, h21_6, h22_6, hbb_6, hbl_6, hb3_6⟩ := hR6
      have qd6 := hFc6.2.1
      have hF6 := hF5.tr hFc6
      have q197 := gl h19_6
      have q207 := gl h20_6
      have q217 := gl h21_6
      have q227 := gl h22_6
      have qb7 := gl hbb_6
      have qF7 := hF6.1
      refine J_newO (pc := 31) (M := mX8_list) (fs := [.null, .int (nI 0), .int (nI 0), .int (nI 0)]) dX8_list_31 kC1 fc_X8_146 fi_J4 fz_J4 df_J4 (by omega) (by omega) (fun a31 w7 ha7 hln7 hc7 hne7 => ?_)
      have h19_7 := (hne7 19 (by omega)).trans h19_6
      have h20_7 := (hne7 20 (by omega)).trans h20_6
      have h21_7 := (hne7 21 (by omega)).trans h21_6
      have h22_7 := (hne7 22 (by omega)).trans h22_6
      have hb_7 := (hne7 _ (by omega)).trans hbb_6
      have hF7 := hF6.pu ha7 hln7 hne7
      have qa7 : 23 ≤ a31 := by omega
      have qb7 : a31 ≠ b6 := by omega
      have qw7 : w.length ≤ a31 := by omega
      refine J_dup (pc := 34) dX8_list_34 rfl ?_
      refine J_callI (pc := 35) (M := mX8_list) (as := []) dX8_list_35 fw_J4_init_da8c8 fl_X8_148 fm_J4_init_da8c8 rfl rfl rfl (c_J4_init_da8c8 hs (d := d - 1) (by omega) (w := w7) a31 hc7 (kc := 1) (ks := 16) (Nat.le_refl _) (Nat.le_refl _)) (by omega) (by omega) (by omega) (st := [.ref a31]) (Nat.le_of_ble_eq_true rfl) rfl (kr_V fun w8 hw8 => ?_) kx_V
      obtain ⟨v8', ys8, hB8, hFc8, hvv8⟩ := hw8
      have hgl8 := hFc8.1
      have hbl8 := hB8.2.2.2.2.1
      have h19_8 := (hFc8.2 19 (by omega) (by omega) (gl h19_7)).trans h19_7
      have h20_8 := (hFc8.2 20 (by omega) (by omega) (gl h20_7)).trans h20_7
      have h21_8 := (hFc8.2 21 (by omega) (by omega) (gl h21_7)).trans h21_7
      have h22_8 := (hFc8.2 22 (by omega) (by omega) (gl h22_7)).trans h22_7
      have hbb_8 := (hFc8.2 b6 (by omega) (by omega) (gl hb_7)).trans hb_7
      have hF8 := hF7.sb hFc8 (by omega) (by omega)
      refine J_astore_n (pc := 38) dX8_list_38 rfl (by decide) rfl rfl ?_
      show J X mX8_list d (kc - 13 - 1 - 1) (ks - 2054 - 4 - 16) 39 [some (.ref 19), some (.int (nI q1)), some (.int c), some (.ref a31), none, none, none] [] w8 _
      refine J_iload_n (pc := 39) dX8_list_39 rfl rfl ?_
      refine J_istore (pc := 40) dX8_list_40 (by decide) rfl ?_
      show J X mX8_list d (kc - 13 - 1 - 1) (ks - 2054 - 4 - 16) 42 [some (.ref 19), some (.int (nI q1)), some (.int c), some (.ref a31), some (.int c), none, none] [] w8 _
      refine J_iconst (pc := 42) (v := nI 0) dX8_list_42 (by decide) ?_
      refine J_istore (pc := 43) dX8_list_43 (by decide) rfl ?_
      show J X mX8_list d (kc - 13 - 1 - 1) (ks - 2054 - 4 - 16) 45 [some (.ref 19), some (.int (nI q1)), some (.int c), some (.ref a31), some (.int c), some (.int (nI 0)), none] [] w8 _
      refine J_aload_n (pc := 45) dX8_list_45 rfl rfl rfl ?_
      refine J_iconst (pc := 46) (v := nI 0) dX8_list_46 (by decide) ?_
      refine J_callV0 (pc := 47) (M := mX8_list) (as := [.int (nI 0)]) dX8_list_47 fw_X8_from fl_X8_137 fm_X8_from fe_X8_from h19_8 (by decide) rfl rfl rfl (c_X8_from_atm hs (d := d - 1) (Nat.le_trans (by decide) hdm) (w := w8) (n := n) (mv := mv) (rw := rw6) (nx := nx6) (b := b6) (bt := bt6) (kn := kn6) (en := en6) (dn := dn) (rf := rf) (kk := kk) (th := nI (tW 0 0)) ⟨h19_8, h20_8, h21_8, h22_8, hbb_8, hbl_6, hb3_6⟩ hn1 hn2 gm hgrw6 hgnx6 0 (by first | assumption | omega) (kc := 0) (ks := 0)) hdp (st := []) (Nat.le_of_ble_eq_true rfl) rfl (kr_P fun v9 hv9 => ?_) kx_I
      obtain ⟨k9, rfl, hk9⟩ := hv9
      refine J_istore (pc := 50) dX8_list_50 (by decide) rfl ?_
      show J X mX8_list d (kc - 13 - 1 - 1) (ks - 2054 - 4 - 16) 52 [some (.ref 19), some (.int (nI q1)), some (.int c), some (.ref a31), some (.int c), some (.int (nI 0)), some (.int (nI k9 + Int32.ofInt (-1)))] [] w8 _
      have lp52_10 : ∀ (fuel : Nat) (kc11 ks12 : Nat) (w13 : List jC) (v_52 k_52 : Nat) (b_52 : List Int32) (z4 : Int32) (c5 : Nat) (c6 : Nat), (RM n mv rw6 nx6 b6 bt6 kn6 en6 dn rf kk (nI (tW 0 0)) w13) → (FR b b6 w w13) → (SBp a31 v_52 (nI 0) k_52 b_52 w13) → (w.length ≤ v_52) → ((620 - b_52.length) / 18 ≤ kc11) → (1240 - 2 * b_52.length ≤ ks12) → (c6 ≤ fc n) → (c5 ≤ 20) → (k_52 ≤ 5 * c5) → (b6 < v_52) → (mu (fc n) c6 < fuel) → J X mX8_list d kc11 ks12 52 [some (.ref 19), some (.int (nI q1)), some (.int c), some (.ref a31), some (.int z4), some (.int (nI c5)), some (.int (nI c6 + Int32.ofInt (-1)))] [] w13 (pS (fun w' => ∃ (rw' nx' : Nat → Nat) (b' : Nat) (bt' : List Int32) (kn' en' th' : Int32), RM n mv rw' nx' b' bt' kn' en' dn rf kk th' w' ∧ FR b b' w w' ∧ (∀ i, rw' i < 7) ∧ (∀ i, nx' i < 7) ∧ KX n mv kn' bt')) := by
        intro fuellp52_10
        induction fuellp52_10 with
        | zero => intros; omega
        | succ fuellp52_10 ihlp52_10 =>
          intro kc11 ks12 w13 v_52 k_52 b_52 z4 c5 c6 hR14 hF15 hB16 hv17 hr18 hr19 hv52_0 hv52_1 hv52_2 hv52_3 hf20
          obtain ⟨h19_21, h20_21, h21_21, h22_21, hb_21, hbl_21, hb3_21⟩ := hR14
          have qF22 := hF15.1
          have qB23 := gl hb_21
          refine J_iload (pc := 52) dX8_list_52 rfl ?_
          refine J_if_ltM (pc := 54) (tgt := 113) dX8_list_54 (by decide) (by omega) (fun ht24 => ?_) (fun hf25 => ?_)
          · refine J_aload_n (pc := 113) dX8_list_113 rfl rfl rfl ?_
            have hB126 := hB16.2.2.2.1
            have hB326 := hB16.2.2.2.2.2
            refine J_callV (pc := 114) (M := mX8_list) (as := []) dX8_list_114 fw_J4_toString_0e30d fl_X8_158 fm_J4_toString_0e30d fe_J4_toString_0e30d hB16.1 (by decide) rfl rfl rfl (c_J4_toString_0e30d hs (d := d - 1) (by omega) (a := a31) (v := v_52) (c := k_52) (bs := b_52) (w := w13) hB16 (kc := 2) (ks := k_52 + 4) (Nat.le_refl _) (Nat.le_refl _)) (by omega) (by omega) (by omega) (st := []) (Nat.le_of_ble_eq_true rfl) rfl (kr_A fun r26 w26 hw26 => ?_) kx_A
            obtain ⟨hra26, hln26, hne26, vz26, zs26, hco26, hcn26, hyl26⟩ := hw26
            have h19_26 := (hne26 19 (gl h19_21)).trans h19_21
            have h20_26 := (hne26 20 (gl h20_21)).trans h20_21
            have h21_26 := (hne26 21 (gl h21_21)).trans h21_21
            have h22_26 := (hne26 22 (gl h22_21)).trans h22_21
            have hbb_26 := (hne26 b6 (gl hb_21)).trans hb_21
            have hF26 := hF15.gr hln26 hne26
            exact J_aret (pc := 117) dX8_list_117 rfl rfl rfl ⟨rfl, rw6, nx6, b6, bt6, kn6, en6, nI (tW 0 0), ⟨h19_26, h20_26, h21_26, h22_26, hbb_26, hbl_21, hb3_21⟩, hF26, hgrw6, hgnx6, (by first | assumption | exact KX_i (by assumption) (by omega) (by first | rfl | assumption))⟩
          · rw [nI_m1 hf25]
            refine J_iload (pc := 57) dX8_list_57 rfl ?_
            refine J_bipush (pc := 59) (v := nI 20) dX8_list_59 (by decide) ?_
            refine J_icmp_geN (pc := 61) (tgt := 113) dX8_list_61 (by decide) (by omega) (by omega) (fun ht27 => ?_) (fun hf28 => ?_)
            · refine J_aload_n (pc := 113) dX8_list_113 rfl rfl rfl ?_
              have hB129 := hB16.2.2.2.1
              have hB329 := hB16.2.2.2.2.2
              refine J_callV (pc := 114) (M := mX8_list) (as := []) dX8_list_114 fw_J4_toString_0e30d fl_X8_158 fm_J4_toString_0e30d fe_J4_toString_0e30d hB16.1 (by decide) rfl rfl rfl (c_J4_toString_0e30d hs (d := d - 1) (by omega) (a := a31) (v := v_52) (c := k_52) (bs := b_52) (w := w13) hB16 (kc := 2) (ks := k_52 + 4) (Nat.le_refl _) (Nat.le_refl _)) (by omega) (by omega) (by omega) (st := []) (Nat.le_of_ble_eq_true rfl) rfl (kr_A fun r29 w29 hw29 => ?_) kx_A
              obtain ⟨hra29, hln29, hne29, vz29, zs29, hco29, hcn29, hyl29⟩ := hw29
              have h19_29 := (hne29 19 (gl h19_21)).trans h19_21
              have h20_29 := (hne29 20 (gl h20_21)).trans h20_21
              have h21_29 := (hne29 21 (gl h21_21)).trans h21_21
              have h22_29 := (hne29 22 (gl h22_21)).trans h22_21
              have hbb_29 := (hne29 b6 (gl hb_21)).trans hb_21
              have hF29 := hF15.gr hln29 hne29
              exact J_aret (pc := 117) dX8_list_117 rfl rfl rfl ⟨rfl, rw6, nx6, b6, bt6, kn6, en6, nI (tW 0 0), ⟨h19_29, h20_29, h21_29, h22_29, hbb_29, hbl_21, hb3_21⟩, hF29, hgrw6, hgnx6, (by first | assumption | exact KX_i (by assumption) (by omega) (by first | rfl | assumption))⟩
            · refine J_iinc (pc := 64) dX8_list_64 rfl rfl (by decide) rfl ?_
              generalize z4 + Int32.ofInt (-1) = x30
              show J X mX8_list d kc11 ks12 67 [some (.ref 19), some (.int (nI q1)), some (.int c), some (.ref a31), some (.int x30), some (.int (nI c5)), some (.int (nI (c6 - 1)))] [] w13 _
              refine J_iload (pc := 67) dX8_list_67 rfl ?_
              refine J_if_lt (pc := 69) (tgt := 75) dX8_list_69 (by decide) (fun ht31 => ?_) (fun hf32 => ?_)
              · refine J_aload_n (pc := 75) dX8_list_75 rfl rfl rfl ?_
                refine J_iload (pc := 76) dX8_list_76 rfl ?_
                refine J_if_neN (pc := 78) (tgt := 86) dX8_list_78 (by decide) (by omega) (fun ht33 => ?_) (fun hf34 => ?_)
                · refine J_ldcS (pc := 86) (M := mX8_list) (a := 6) (tx := " ") dX8_list_86 (List.mem_cons_of_mem _ List.mem_cons_self) ?_
                  obtain ⟨os35, t35, z35, ho135, ho235, ho335, ho435⟩ := hXO.2.2.2
                  have hgf37 := gL_d (k_52 + os35.length) b_52.length
                  have hB136 := hB16.2.2.2.1
                  have hB236 := hB16.2.2.2.2.1
                  have hB336 := hB16.2.2.2.2.2
                  refine J_callV (pc := 88) (M := mX8_list) (as := [.retAddr 6]) dX8_list_88 fw_J4_append_15ec4 fl_X8_151 fm_J4_append_15ec4 fe_J4_append_15ec4 hB16.1 (by decide) rfl rfl rfl (c_J4_append_15ec4 hs (d := d - 1) (by omega) (a := a31) (v := v_52) (c := k_52) (bs := b_52) (w := w13) hB16 6 t35 z35 os35 ho135 ho235 ho435 (by omega) (by omega) (kc := ((gL (k_52 + os35.length) b_52.length - b_52.length) / 18)) (ks := (2 * (gL (k_52 + os35.length) b_52.length - b_52.length))) (Nat.le_refl _) (Nat.le_refl _)) (by omega) (by omega) (by omega) (st := []) (Nat.le_of_ble_eq_true rfl) rfl (kr_A fun r36 w36 hw36 => ?_) kx_A
                  obtain ⟨hra36, v36', ys36, hB36, hFc36, hvv36, hp36⟩ := hw36
                  obtain rfl := hra36.symm
                  have hgl36 := hFc36.1
                  have hB436 := hB36.2.2.2.1
                  have hB536 := hB36.2.2.2.2.2
                  have hB636 := hB36.2.2.2.2.1
                  have h19_36 := (hFc36.2 19 (by omega) (by omega) (gl h19_21)).trans h19_21
                  have h20_36 := (hFc36.2 20 (by omega) (by omega) (gl h20_21)).trans h20_21
                  have h21_36 := (hFc36.2 21 (by omega) (by omega) (gl h21_21)).trans h21_21
                  have h22_36 := (hFc36.2 22 (by omega) (by omega) (gl h22_21)).trans h22_21
                  have hbb_36 := (hFc36.2 b6 (by omega) (by omega) (gl hb_21)).trans hb_21
                  have hF36 := hF15.sb hFc36 (by omega) (by omega)
                  refine J_iload (pc := 91) dX8_list_91 rfl ?_
                  have hgf39 := gL_d ((k_52 + os35.length) + dgs (c6 - 1)) ys36.length
                  have hgf40 := dgs_le (c6 - 1)
                  have hB138 := hB36.2.2.2.1
                  have hB238 := hB36.2.2.2.2.1
                  have hB338 := hB36.2.2.2.2.2
                  refine J_callV (pc := 93) (M := mX8_list) (as := [.int (nI (c6 - 1))]) dX8_list_93 fw_J4_append_bf812 fl_X8_155 fm_J4_append_bf812 fe_J4_append_bf812 hB36.1 (by decide) rfl rfl rfl (c_J4_append_bf812 hs (d := d - 1) (by omega) hXO (a := a31) (v := v36') (c := k_52 + os35.length) (bs := ys36) (w := w36) hB36 (c6 - 1) (by omega) (by omega) (kc := ((gL ((k_52 + os35.length) + dgs (c6 - 1)) ys36.length - ys36.length) / 18)) (ks := (2 * (gL ((k_52 + os35.length) + dgs (c6 - 1)) ys36.length - ys36.length))) (Nat.le_refl _) (Nat.le_refl _)) (by omega) (by omega) (by omega) (st := []) (Nat.le_of_ble_eq_true rfl) rfl (kr_A fun r38 w38 hw38 => ?_) kx_A
                  obtain ⟨hra38, v38', ys38, hB38, hFc38, hvv38, hp38⟩ := hw38
                  obtain rfl := hra38.symm
                  have hgl38 := hFc38.1
                  have hB438 := hB38.2.2.2.1
                  have hB538 := hB38.2.2.2.2.2
                  have hB638 := hB38.2.2.2.2.1
                  have h19_38 := (hFc38.2 19 (by omega) (by omega) (gl h19_36)).trans h19_36
                  have h20_38 := (hFc38.2 20 (by omega) (by omega) (gl h20_36)).trans h20_36
                  have h21_38 := (hFc38.2 21 (by omega) (by omega) (gl h21_36)).trans h21_36
                  have h22_38 := (hFc38.2 22 (by omega) (by omega) (gl h22_36)).trans h22_36
                  have hbb_38 := (hFc38.2 b6 (by omega) (by omega) (gl hbb_36)).trans hbb_36
                  have hF38 := hF36.sb hFc38 (by omega) (by omega)
                  refine J_pop (pc := 96) dX8_list_96 rfl ?_
                  refine J_iincN (pc := 97) (b := 1) dX8_list_97 rfl (by decide) (by decide) rfl ?_
                  show J X mX8_list d (kc11 - ((gL (k_52 + os35.length) b_52.length - b_52.length) / 18) - ((gL ((k_52 + os35.length) + dgs (c6 - 1)) ys36.length - ys36.length) / 18)) (ks12 - (2 * (gL (k_52 + os35.length) b_52.length - b_52.length)) - (2 * (gL ((k_52 + os35.length) + dgs (c6 - 1)) ys36.length - ys36.length))) 100 [some (.ref 19), some (.int (nI q1)), some (.int c), some (.ref a31), some (.int x30), some (.int (nI (c5 + 1))), some (.int (nI (c6 - 1)))] [] w38 _
                  refine J_aload_n (pc := 100) dX8_list_100 rfl rfl rfl ?_
                  refine J_iload (pc := 101) dX8_list_101 rfl ?_
                  refine J_iconst (pc := 103) (v := nI 1) dX8_list_103 (by decide) ?_
                  refine J_iaddN (pc := 104) dX8_list_104 ?_
                  refine J_callV0 (pc := 105) (M := mX8_list) (as := [.int (nI ((c6 - 1) + 1))]) dX8_list_105 fw_X8_from fl_X8_137 fm_X8_from fe_X8_from h19_38 (by decide) rfl rfl rfl (c_X8_from_atm hs (d := d - 1) (Nat.le_trans (by decide) hdm) (w := w38) (n := n) (mv := mv) (rw := rw6) (nx := nx6) (b := b6) (bt := bt6) (kn := kn6) (en := en6) (dn := dn) (rf := rf) (kk := kk) (th := nI (tW 0 0)) ⟨h19_38, h20_38, h21_38, h22_38, hbb_38, hbl_21, hb3_21⟩ hn1 hn2 gm hgrw6 hgnx6 ((c6 - 1) + 1) (by first | assumption | omega) (kc := 0) (ks := 0)) hdp (st := []) (Nat.le_of_ble_eq_true rfl) rfl (kr_P fun v41 hv41 => ?_) kx_I
                  obtain ⟨k41, rfl, hk41⟩ := hv41
                  refine J_istore (pc := 108) dX8_list_108 (by decide) rfl ?_
                  show J X mX8_list d (kc11 - ((gL (k_52 + os35.length) b_52.length - b_52.length) / 18) - ((gL ((k_52 + os35.length) + dgs (c6 - 1)) ys36.length - ys36.length) / 18)) (ks12 - (2 * (gL (k_52 + os35.length) b_52.length - b_52.length)) - (2 * (gL ((k_52 + os35.length) + dgs (c6 - 1)) ys36.length - ys36.length))) 110 [some (.ref 19), some (.int (nI q1)), some (.int c), some (.ref a31), some (.int x30), some (.int (nI (c5 + 1))), some (.int (nI k41 + Int32.ofInt (-1)))] [] w38 _
                  refine J_goto (pc := 110) (tgt := 52) dX8_list_110 (by decide) ?_
                  exact J_sub (L' := [some (.ref 19), some (.int (nI q1)), some (.int c), some (.ref a31), some (.int x30), some (.int (nI (c5 + 1))), some (.int (nI k41 + Int32.ofInt (-1)))]) ⟨rfl, ⟨rfl, ⟨rfl, ⟨rfl, ⟨rfl, ⟨rfl, ⟨rfl, trivial⟩⟩⟩⟩⟩⟩⟩ (ihlp52_10 _ _ w38 v38' (k_52 + os35.length + dgs (c6 - 1)) ys38 x30 (c5 + 1) k41 ⟨h19_38, h20_38, h21_38, h22_38, hbb_38, hbl_21, hb3_21⟩ hF38 hB38 (by omega) (by first | exact pot_k2 (by assumption) (by assumption) (by assumption) | exact pot_k1 (by assumption) (by assumption) | assumption | omega) (by first | exact pot_s2 (by assumption) (by assumption) (by assumption) | exact pot_s1 (by assumption) (by assumption) | assumption | omega) (by first | assumption | omega) (by first | assumption | omega) (by first | assumption | omega) (by omega) (by exact mu_dec (by assumption) (by omega) (by omega) (by omega)))
                · refine J_ldcS (pc := 81) (M := mX8_list) (a := 5) (tx := "") dX8_list_81 List.mem_cons_self ?_
                  refine J_goto (pc := 83) (tgt := 88) dX8_list_83 (by decide) ?_
                  obtain ⟨os42, t42, z42, ho142, ho242, ho342, ho442⟩ := hXO.2.2.1
                  have hgf44 := gL_d (k_52 + os42.length) b_52.length
                  have hB143 := hB16.2.2.2.1
                  have hB243 := hB16.2.2.2.2.1
                  have hB343 := hB16.2.2.2.2.2
                  refine J_callV (pc := 88) (M := mX8_list) (as := [.retAddr 5]) dX8_list_88 fw_J4_append_15ec4 fl_X8_151 fm_J4_append_15ec4 fe_J4_append_15ec4 hB16.1 (by decide) rfl rfl rfl (c_J4_append_15ec4 hs (d := d - 1) (by omega) (a := a31) (v := v_52) (c := k_52) (bs := b_52) (w := w13) hB16 5 t42 z42 os42 ho142 ho242 ho442 (by omega) (by omega) (kc := ((gL (k_52 + os42.length) b_52.length - b_52.length) / 18)) (ks := (2 * (gL (k_52 + os42.length) b_52.length - b_52.length))) (Nat.le_refl _) (Nat.le_refl _)) (by omega) (by omega) (by omega) (st := []) (Nat.le_of_ble_eq_true rfl) rfl (kr_A fun r43 w43 hw43 => ?_) kx_A
                  obtain ⟨hra43, v43', ys43, hB43, hFc43, hvv43, hp43⟩ := hw43
                  obtain rfl := hra43.symm
                  have hgl43 := hFc43.1
                  have hB443 := hB43.2.2.2.1
                  have hB543 := hB43.2.2.2.2.2
                  have hB643 := hB43.2.2.2.2.1
                  have h19_43 := (hFc43.2 19 (by omega) (by omega) (gl h19_21)).trans h19_21
                  have h20_43 := (hFc43.2 20 (by omega) (by omega) (gl h20_21)).trans h20_21
                  have h21_43 := (hFc43.2 21 (by omega) (by omega) (gl h21_21)).trans h21_21
                  have h22_43 := (hFc43.2 22 (by omega) (by omega) (gl h22_21)).trans h22_21
                  have hbb_43 := (hFc43.2 b6 (by omega) (by omega) (gl hb_21)).trans hb_21
                  have hF43 := hF15.sb hFc43 (by omega) (by omega)
                  refine J_iload (pc := 91) dX8_list_91 rfl ?_
                  have hgf46 := gL_d ((k_52 + os42.length) + dgs (c6 - 1)) ys43.length
                  have hgf47 := dgs_le (c6 - 1)
                  have hB145 := hB43.2.2.2.1
                  have hB245 := hB43.2.2.2.2.1
                  have hB345 := hB43.2.2.2.2.2
                  refine J_callV (pc := 93) (M := mX8_list) (as := [.int (nI (c6 - 1))]) dX8_list_93 fw_J4_append_bf812 fl_X8_155 fm_J4_append_bf812 fe_J4_append_bf812 hB43.1 (by decide) rfl rfl rfl (c_J4_append_bf812 hs (d := d - 1) (by omega) hXO (a := a31) (v := v43') (c := k_52 + os42.length) (bs := ys43) (w := w43) hB43 (c6 - 1) (by omega) (by omega) (kc := ((gL ((k_52 + os42.length) + dgs (c6 - 1)) ys43.length - ys43.length) / 18)) (ks := (2 * (gL ((k_52 + os42.length) + dgs (c6 - 1)) ys43.length - ys43.length))) (Nat.le_refl _) (Nat.le_refl _)) (by omega) (by omega) (by omega) (st := []) (Nat.le_of_ble_eq_true rfl) rfl (kr_A fun r45 w45 hw45 => ?_) kx_A
                  obtain ⟨hra45, v45', ys45, hB45, hFc45, hvv45, hp45⟩ := hw45
                  obtain rfl := hra45.symm
                  have hgl45 := hFc45.1
                  have hB445 := hB45.2.2.2.1
                  have hB545 := hB45.2.2.2.2.2
                  have hB645 := hB45.2.2.2.2.1
                  have h19_45 := (hFc45.2 19 (by omega) (by omega) (gl h19_43)).trans h19_43
                  have h20_45 := (hFc45.2 20 (by omega) (by omega) (gl h20_43)).trans h20_43
                  have h21_45 := (hFc45.2 21 (by omega) (by omega) (gl h21_43)).trans h21_43
                  have h22_45 := (hFc45.2 22 (by omega) (by omega) (gl h22_43)).trans h22_43
                  have hbb_45 := (hFc45.2 b6 (by omega) (by omega) (gl hbb_43)).trans hbb_43
                  have hF45 := hF43.sb hFc45 (by omega) (by omega)
                  refine J_pop (pc := 96) dX8_list_96 rfl ?_
                  refine J_iincN (pc := 97) (b := 1) dX8_list_97 rfl (by decide) (by decide) rfl ?_
                  show J X mX8_list d (kc11 - ((gL (k_52 + os42.length) b_52.length - b_52.length) / 18) - ((gL ((k_52 + os42.length) + dgs (c6 - 1)) ys43.length - ys43.length) / 18)) (ks12 - (2 * (gL (k_52 + os42.length) b_52.length - b_52.length)) - (2 * (gL ((k_52 + os42.length) + dgs (c6 - 1)) ys43.length - ys43.length))) 100 [some (.ref 19), some (.int (nI q1)), some (.int c), some (.ref a31), some (.int x30), some (.int (nI (c5 + 1))), some (.int (nI (c6 - 1)))] [] w45 _
                  refine J_aload_n (pc := 100) dX8_list_100 rfl rfl rfl ?_
                  refine J_iload (pc := 101) dX8_list_101 rfl ?_
                  refine J_iconst (pc := 103) (v := nI 1) dX8_list_103 (by decide) ?_
                  refine J_iaddN (pc := 104) dX8_list_104 ?_
                  refine J_callV0 (pc := 105) (M := mX8_list) (as := [.int (nI ((c6 - 1) + 1))]) dX8_list_105 fw_X8_from fl_X8_137 fm_X8_from fe_X8_from h19_45 (by decide) rfl rfl rfl (c_X8_from_atm hs (d := d - 1) (Nat.le_trans (by decide) hdm) (w := w45) (n := n) (mv := mv) (rw := rw6) (nx := nx6) (b := b6) (bt := bt6) (kn := kn6) (en := en6) (dn := dn) (rf := rf) (kk := kk) (th := nI (tW 0 0)) ⟨h19_45, h20_45, h21_45, h22_45, hbb_45, hbl_21, hb3_21⟩ hn1 hn2 gm hgrw6 hgnx6 ((c6 - 1) + 1) (by first | assumption | omega) (kc := 0) (ks := 0)) hdp (st := []) (Nat.le_of_ble_eq_true rfl) rfl (kr_P fun v48 hv48 => ?_) kx_I
                  obtain ⟨k48, rfl, hk48⟩ := hv48
                  refine J_istore (pc := 108) dX8_list_108 (by decide) rfl ?_
                  show J X mX8_list d (kc11 - ((gL (k_52 + os42.length) b_52.length - b_52.length) / 18) - ((gL ((k_52 + os42.length) + dgs (c6 - 1)) ys43.length - ys43.length) / 18)) (ks12 - (2 * (gL (k_52 + os42.length) b_52.length - b_52.length)) - (2 * (gL ((k_52 + os42.length) + dgs (c6 - 1)) ys43.length - ys43.length))) 110 [some (.ref 19), some (.int (nI q1)), some (.int c), some (.ref a31), some (.int x30), some (.int (nI (c5 + 1))), some (.int (nI k48 + Int32.ofInt (-1)))] [] w45 _
                  refine J_goto (pc := 110) (tgt := 52) dX8_list_110 (by decide) ?_
                  exact J_sub (L' := [some (.ref 19), some (.int (nI q1)), some (.int c), some (.ref a31), some (.int x30), some (.int (nI (c5 + 1))), some (.int (nI k48 + Int32.ofInt (-1)))]) ⟨rfl, ⟨rfl, ⟨rfl, ⟨rfl, ⟨rfl, ⟨rfl, ⟨rfl, trivial⟩⟩⟩⟩⟩⟩⟩ (ihlp52_10 _ _ w45 v45' (k_52 + os42.length + dgs (c6 - 1)) ys45 x30 (c5 + 1) k48 ⟨h19_45, h20_45, h21_45, h22_45, hbb_45, hbl_21, hb3_21⟩ hF45 hB45 (by omega) (by first | exact pot_k2 (by assumption) (by assumption) (by assumption) | exact pot_k1 (by assumption) (by assumption) | assumption | omega) (by first | exact pot_s2 (by assumption) (by assumption) (by assumption) | exact pot_s1 (by assumption) (by assumption) | assumption | omega) (by first | assumption | omega) (by first | assumption | omega) (by first | assumption | omega) (by omega) (by exact mu_dec (by assumption) (by omega) (by omega) (by omega)))
              · refine J_goto (pc := 72) (tgt := 100) dX8_list_72 (by decide) ?_
                refine J_aload_n (pc := 100) dX8_list_100 rfl rfl rfl ?_
                refine J_iload (pc := 101) dX8_list_101 rfl ?_
                refine J_iconst (pc := 103) (v := nI 1) dX8_list_103 (by decide) ?_
                refine J_iaddN (pc := 104) dX8_list_104 ?_
                refine J_callV0 (pc := 105) (M := mX8_list) (as := [.int (nI ((c6 - 1) + 1))]) dX8_list_105 fw_X8_from fl_X8_137 fm_X8_from fe_X8_from h19_21 (by decide) rfl rfl rfl (c_X8_from_atm hs (d := d - 1) (Nat.le_trans (by decide) hdm) (w := w13) (n := n) (mv := mv) (rw := rw6) (nx := nx6) (b := b6) (bt := bt6) (kn := kn6) (en := en6) (dn := dn) (rf := rf) (kk := kk) (th := nI (tW 0 0)) ⟨h19_21, h20_21, h21_21, h22_21, hb_21, hbl_21, hb3_21⟩ hn1 hn2 gm hgrw6 hgnx6 ((c6 - 1) + 1) (by first | assumption | omega) (kc := 0) (ks := 0)) hdp (st := []) (Nat.le_of_ble_eq_true rfl) rfl (kr_P fun v49 hv49 => ?_) kx_I
                obtain ⟨k49, rfl, hk49⟩ := hv49
                refine J_istore (pc := 108) dX8_list_108 (by decide) rfl ?_
                show J X mX8_list d kc11 ks12 110 [some (.ref 19), some (.int (nI q1)), some (.int c), some (.ref a31), some (.int x30), some (.int (nI c5)), some (.int (nI k49 + Int32.ofInt (-1)))] [] w13 _
                refine J_goto (pc := 110) (tgt := 52) dX8_list_110 (by decide) ?_
                exact J_sub (L' := [some (.ref 19), some (.int (nI q1)), some (.int c), some (.ref a31), some (.int x30), some (.int (nI c5)), some (.int (nI k49 + Int32.ofInt (-1)))]) ⟨rfl, ⟨rfl, ⟨rfl, ⟨rfl, ⟨rfl, ⟨rfl, ⟨rfl, trivial⟩⟩⟩⟩⟩⟩⟩ (ihlp52_10 _ _ w13 v_52 k_52 b_52 x30 c5 k49 ⟨h19_21, h20_21, h21_21, h22_21, hb_21, hbl_21, hb3_21⟩ hF15 hB16 (by omega) (by first | exact pot_k2 (by assumption) (by assumption) (by assumption) | exact pot_k1 (by assumption) (by assumption) | assumption | omega) (by first | exact pot_s2 (by assumption) (by assumption) (by assumption) | exact pot_s1 (by assumption) (by assumption) | assumption | omega) (by first | assumption | omega) (by first | assumption | omega) (by first | assumption | omega) (by omega) (by exact mu_dec (by assumption) (by omega) (by omega) (by omega)))
      exact J_sub (L' := [some (.ref 19), some (.int (nI q1)), some (.int c), some (.ref a31), some (.int c), some (.int (nI 0)), some (.int (nI k9 + Int32.ofInt (-1)))]) ⟨rfl, ⟨rfl, ⟨rfl, ⟨rfl, ⟨rfl, ⟨rfl, ⟨rfl, trivial⟩⟩⟩⟩⟩⟩⟩ (lp52_10 _ _ _ w8 v8' 0 ys8 c 0 k9 ⟨h19_8, h20_8, h21_8, h22_8, hbb_8, hbl_6, hb3_6⟩ hF8 hB8 (by omega) (by omega) (by omega) (by first | assumption | omega) (by first | assumption | omega) (by first | assumption | omega) (by omega) (Nat.lt_succ_self _))
    · refine J_iconst (pc := 12) (v := nI 1) dX8_list_12 (by decide) ?_
      refine J_goto (pc := 13) (tgt := 17) dX8_list_13 (by decide) ?_
      refine J_callV0 (pc := 17) (M := mX8_list) (as := [.int (nI 1)]) dX8_list_17 fw_X8_isThrown_ fl_X8_105 fm_X8_isThrown_ fe_X8_isThrown_ h19 (by decide) rfl rfl rfl (c_X8_isThrown_ hs (d := d - 1) (Nat.le_trans (by decide) hdm) (w := w) (n := n) (mv := mv) (rw := rw) (nx := nx) (b := b) (bt := bt) (kn := kn) (en := en) (dn := dn) (rf := rf) (kk := kk) (th := th) ⟨h19, h20, h21, h22, hbb, hbl, hb3⟩ hn1 hn2 gm gr gx 1 (by first | assumption | omega) (kc := 0) (ks := 0)) hdp (st := []) (Nat.le_of_ble_eq_true rfl) rfl (kr_I fun v50 w50 hv50 hw50 => ?_) kx_I
      obtain ⟨hR50, hFc50⟩ := hw50
      obtain ⟨h19_50, h20_50, h21_50, h22_50, hbb_50, hbl_50, hb3_50⟩ := hR50
      have hF50 := hF.tr hFc50
      subst hv50
      show J X mX8_list d kc ks 20 [some (.ref 19), some (.int (nI q1)), some (.int c), none, none, none, none] [.int (nI 1)] w50 _
      refine J_if_eqN (pc := 20) (tgt := 26) dX8_list_20 (by decide) (by decide) (fun h => absurd h (by decide)) (fun _ => ?_)
      refine J_ldcS (pc := 23) (M := mX8_list) (a := 5) (tx := "") dX8_list_23 List.mem_cons_self ?_
      exact J_aret (pc := 25) dX8_list_25 rfl rfl rfl ⟨rfl, rw, nx, b, bt, kn, en, nI (tW 1 0), ⟨h19_50, h20_50, h21_50, h22_50, hbb_50, hbl_50, hb3_50⟩, hF50, gr, gx, (by first | assumption | exact KX_i (by assumption) (by omega) (by first | rfl | assumption))⟩
