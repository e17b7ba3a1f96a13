/-! texts of the reference -/
set_option maxRecDepth 100000 in
set_option maxHeartbeats 40000000 in
theorem c_X8_ringsNow {X : jX} (hs : X.1.stackTraces = false) {d : Nat} (hd : 14 ≤ d) (hXO : XO X) {n : Nat} {mv rw nx : Nat → Nat} {b : Nat} {bt : List Int32} {kn en dn rf kk th : Int32} {w : List jC} (hR : RM n mv rw nx b bt kn en dn rf kk th w) (hn1 : 2 ≤ n) (hn2 : n ≤ 7) (gm : ∀ i, mv i < 7) (gr : ∀ i, rw i < 7) (gx : ∀ i, nx i < 7) (a : Nat) (hy0 : a < 6) (hy1 : PM n mv) {kc ks : Nat} (hkc : 40 ≤ kc) (hks : 1500 ≤ ks) : jMet X mX8_ringsNow d kc ks [.ref 19, .int (nI a)] w (pA (fun r w' => RM n mv rw nx b bt kn en dn rf kk th w' ∧ FR b b w w' ∧ ∃ (vz : Nat) (zs : List Int32), w'[r]? = some (.inr (0, [.ref vz, .int (nI 0), .int (nI 0), .int (nI 0)])) ∧ w'[vz]? = some (.inl (1, zs)) ∧ zs.length ≤ 270)) := by
  refine jMet_of hs (by decide +kernel) (Nat.le_of_ble_eq_true rfl) (L := [some (.ref 19), some (.int (nI a)), none, none, none]) rfl ?_
  have hdm : 13 ≤ d - 1 := by omega
  have hdp : d - 1 + 1 ≤ d := by omega
  have hfc := fc_7 hn2
  have hfp := fc_pos n
  obtain ⟨h19, h20, h21, h22, hbb, hbl, hb3⟩ := hR
  have hF : FR b b w w := FR.rf
  have q191 := gl h19
  have q201 := gl h20
  have q211 := gl h21
  have q221 := gl h22
  have qb1 := gl hbb
  have qF1 := hF.1
  refine J_newO (pc := 0) (fs := [.null, .int (nI 0), .int (nI 0), .int (nI 0)]) dX8_ringsNow_0 kC1 fc_X8_146 fi_J4 fz_J4 df_J4 (by omega) (by omega) (fun a0 w1 ha1 hln1 hc1 hne1 => ?_)
  have h19_1 := (hne1 19 (by omega)).trans h19
  have h20_1 := (hne1 20 (by omega)).trans h20
  have h21_1 := (hne1 21 (by omega)).trans h21
  have h22_1 := (hne1 22 (by omega)).trans h22
  have hb_1 := (hne1 _ (by omega)).trans hbb
  have hF1 := hF.pu ha1 hln1 hne1
  have qa1 : 23 ≤ a0 := by omega
  have qb1 : a0 ≠ b := by omega
  have qw1 : w.length ≤ a0 := by omega
  refine J_dup (pc := 3) dX8_ringsNow_3 rfl ?_
  refine J_callI (pc := 4) (as := []) dX8_ringsNow_4 fw_J4_init_da8c8 fl_X8_148 fm_J4_init_da8c8 rfl rfl rfl (c_J4_init_da8c8 hs (d := d - 1) (by omega) (w := w1) a0 hc1 (kc := 1) (ks := 16) (Nat.le_refl _) (Nat.le_refl _)) (by omega) (by omega) (by omega) (st := [.ref a0]) (Nat.le_of_ble_eq_true rfl) rfl (kr_V fun w2 hw2 => ?_) kx_V
  obtain ⟨v2', ys2, hB2, hFc2, hvv2⟩ := hw2
  have hgl2 := hFc2.1
  have hbl2 := hB2.2.2.2.2.1
  have h19_2 := (hFc2.2 19 (by omega) (by omega) (gl h19_1)).trans h19_1
  have h20_2 := (hFc2.2 20 (by omega) (by omega) (gl h20_1)).trans h20_1
  have h21_2 := (hFc2.2 21 (by omega) (by omega) (gl h21_1)).trans h21_1
  have h22_2 := (hFc2.2 22 (by omega) (by omega) (gl h22_1)).trans h22_1
  have hbb_2 := (hFc2.2 b (by omega) (by omega) (gl hb_1)).trans hb_1
  have hF2 := hF1.sb hFc2 (by omega) (by omega)
  refine J_astore_n (pc := 7) dX8_ringsNow_7 rfl (by decide) rfl rfl ?_
  show J X mX8_ringsNow d (kc - 1 - 1) (ks - 4 - 16) 8 [some (.ref 19), some (.int (nI a)), some (.ref a0), none, none] [] w2 _
  refine J_iconst (pc := 8) (v := nI 1) dX8_ringsNow_8 (by decide) ?_
  refine J_istore_n (pc := 9) dX8_ringsNow_9 rfl (by decide) rfl ?_
  show J X mX8_ringsNow d (kc - 1 - 1) (ks - 4 - 16) 10 [some (.ref 19), some (.int (nI a)), some (.ref a0), some (.int (nI 1)), none] [] w2 _
  have lp10_3 : ∀ (fuel : Nat) (kc4 ks5 : Nat) (w6 : List jC) (v_10 k_10 : Nat) (b_10 : List Int32) (c3 : Nat), (RM n mv rw nx b bt kn en dn rf kk th w6) → (FR b b w w6) → (SBp a0 v_10 (nI 0) k_10 b_10 w6) → (w.length ≤ v_10) → ((620 - b_10.length) / 18 ≤ kc4) → (1240 - 2 * b_10.length ≤ ks5) → (1 ≤ c3) → (c3 ≤ n + 1) → (k_10 ≤ 14 * (c3 - 1)) → (n + 1 - c3 < fuel) → J X mX8_ringsNow d kc4 ks5 10 [some (.ref 19), some (.int (nI a)), some (.ref a0), some (.int (nI c3)), none] [] w6 (pA (fun r w' => RM n mv rw nx b bt kn en dn rf kk th w' ∧ FR b b w w' ∧ ∃ (vz : Nat) (zs : List Int32), w'[r]? = some (.inr (0, [.ref vz, .int (nI 0), .int (nI 0), .int (nI 0)])) ∧ w'[vz]? = some (.inl (1, zs)) ∧ zs.length ≤ 270)) := by
    intro fuellp10_3
    induction fuellp10_3 with
    | zero => intros; omega
    | succ fuellp10_3 ihlp10_3 =>
      intro kc4 ks5 w6 v_10 k_10 b_10 c3 hR7 hF8 hB9 hv10 hr11 hr12 hv10_0 hv10_1 hv10_2 hf13
      obtain ⟨h19_14, h20_14, h21_14, h22_14, hb_14, hbl_14, hb3_14⟩ := hR7
      refine J_iload_n (pc := 10) dX8_ringsNow_10 rfl rfl ?_
      refine J_aload_n (pc := 11) dX8_ringsNow_11 rfl rfl rfl ?_
      refine J_get (pc := 12) (k := 0) dX8_ringsNow_12 kC9 (by decide) ff_X8_7 h19_14 rfl ?_
      refine J_icmp_gtN (pc := 15) (tgt := 66) dX8_ringsNow_15 (by decide) (by omega) (by omega) (fun ht15 => ?_) (fun hf16 => ?_)
      · refine J_aload_n (pc := 66) dX8_ringsNow_66 rfl rfl rfl ?_
        have hB117 := hB9.2.2.2.1
        have hB317 := hB9.2.2.2.2.2
        refine J_callV (pc := 67) (as := []) dX8_ringsNow_67 fw_J4_toString_0e30d fl_X8_158 fm_J4_toString_0e30d fe_J4_toString_0e30d hB9.1 (by decide) rfl rfl rfl (c_J4_toString_0e30d hs (d := d - 1) (by omega) (a := a0) (v := v_10) (c := k_10) (bs := b_10) (w := w6) hB9 (kc := 2) (ks := k_10 + 4) (Nat.le_refl _) (Nat.le_refl _)) (by omega) (by omega) (by omega) (st := []) (Nat.le_of_ble_eq_true rfl) rfl (kr_A fun r17 w17 hw17 => ?_) kx_A
        obtain ⟨hra17, hln17, hne17, vz17, zs17, hco17, hcn17, hyl17⟩ := hw17
        have h19_17 := (hne17 19 (gl h19_14)).trans h19_14
        have h20_17 := (hne17 20 (gl h20_14)).trans h20_14
        have h21_17 := (hne17 21 (gl h21_14)).trans h21_14
        have h22_17 := (hne17 22 (gl h22_14)).trans h22_14
        have hbb_17 := (hne17 b (gl hb_14)).trans hb_14
        have hF17 := hF8.gr hln17 hne17
        exact J_aret (pc := 70) dX8_ringsNow_70 rfl rfl rfl ⟨⟨h19_17, h20_17, h21_17, h22_17, hbb_17, hbl_14, hb3_14⟩, hF17, vz17, zs17, hco17, hcn17, by omega⟩
      · refine J_aload_n (pc := 18) dX8_ringsNow_18 rfl rfl rfl ?_
        refine J_iload_n (pc := 19) dX8_ringsNow_19 rfl rfl ?_
        refine J_iload_n (pc := 20) dX8_ringsNow_20 rfl rfl ?_
        refine J_callV0 (pc := 21) (as := [.int (nI a), .int (nI c3)]) dX8_ringsNow_21 fw_X8_longOnes fl_X8_162 fm_X8_longOnes fe_X8_longOnes h19_14 (by decide) rfl rfl rfl (c_X8_longOnes hs (d := d - 1) (Nat.le_trans (by decide) hdm) (w := w6) (n := n) (mv := mv) (rw := rw) (nx := nx) (b := b) (bt := bt) (kn := kn) (en := en) (dn := dn) (rf := rf) (kk := kk) (th := th) ⟨h19_14, h20_14, h21_14, h22_14, hb_14, hbl_14, hb3_14⟩ hn1 hn2 gm gr gx a c3 (by first | assumption | omega) (by first | assumption | omega) (by first | assumption | omega) (by first | assumption | omega) (kc := 0) (ks := 0)) hdp (st := []) (Nat.le_of_ble_eq_true rfl) rfl (kr_P fun v18 hv18 => ?_) kx_I
        obtain ⟨k18, rfl, hk18⟩ := hv18
        refine J_istore (pc := 24) dX8_ringsNow_24 (by decide) rfl ?_
        show J X mX8_ringsNow d kc4 ks5 26 [some (.ref 19), some (.int (nI a)), some (.ref a0), some (.int (nI c3)), some (.int (nI k18))] [] w6 _
        have lp26_19 : ∀ (fuel : Nat) (kc20 ks21 : Nat) (w22 : List jC) (v_26 k_26 : Nat) (b_26 : List Int32) (c4 : Nat), (RM n mv rw nx b bt kn en dn rf kk th w22) → (FR b b w w22) → (SBp a0 v_26 (nI 0) k_26 b_26 w22) → (w.length ≤ v_26) → ((620 - b_26.length) / 18 ≤ kc20) → (1240 - 2 * b_26.length ≤ ks21) → (c4 ≤ 7) → (k_26 + 2 * c4 ≤ 14 * c3) → (c4 < fuel) → J X mX8_ringsNow d kc20 ks21 26 [some (.ref 19), some (.int (nI a)), some (.ref a0), some (.int (nI c3)), some (.int (nI c4))] [] w22 (pA (fun r w' => RM n mv rw nx b bt kn en dn rf kk th w' ∧ FR b b w w' ∧ ∃ (vz : Nat) (zs : List Int32), w'[r]? = some (.inr (0, [.ref vz, .int (nI 0), .int (nI 0), .int (nI 0)])) ∧ w'[vz]? = some (.inl (1, zs)) ∧ zs.length ≤ 270)) := by
          intro fuellp26_19
          induction fuellp26_19 with
          | zero => intros; omega
          | succ fuellp26_19 ihlp26_19 =>
            intro kc20 ks21 w22 v_26 k_26 b_26 c4 hR23 hF24 hB25 hv26 hr27 hr28 hv26_0 hv26_1 hf29
            obtain ⟨h19_30, h20_30, h21_30, h22_30, hb_30, hbl_30, hb3_30⟩ := hR23
            refine J_iload (pc := 26) dX8_ringsNow_26 rfl ?_
            refine J_if_leN (pc := 28) (tgt := 60) dX8_ringsNow_28 (by decide) (by omega) (fun ht31 => ?_) (fun hf32 => ?_)
            · refine J_iincN (pc := 60) (b := 1) dX8_ringsNow_60 rfl (by decide) (by decide) rfl ?_
              show J X mX8_ringsNow d kc20 ks21 63 [some (.ref 19), some (.int (nI a)), some (.ref a0), some (.int (nI (c3 + 1))), some (.int (nI c4))] [] w22 _
              refine J_goto (pc := 63) (tgt := 10) dX8_ringsNow_63 (by decide) ?_
              exact J_sub (L' := [some (.ref 19), some (.int (nI a)), some (.ref a0), some (.int (nI (c3 + 1))), none]) ⟨rfl, ⟨rfl, ⟨rfl, ⟨rfl, trivial⟩⟩⟩⟩ (ihlp10_3 _ _ w22 v_26 k_26 b_26 (c3 + 1) ⟨h19_30, h20_30, h21_30, h22_30, hb_30, hbl_30, hb3_30⟩ hF24 hB25 (by omega) (by omega) (by omega) (by first | assumption | omega) (by first | assumption | omega) (by first | assumption | omega) (by omega))
            · refine J_aload_n (pc := 31) dX8_ringsNow_31 rfl rfl rfl ?_
              refine J_aload_n (pc := 32) dX8_ringsNow_32 rfl rfl rfl ?_
              refine J_callV0 (pc := 33) (as := []) dX8_ringsNow_33 fw_J4_length_8abf5 fl_X8_165 fm_J4_length_8abf5 fe_J4_length_8abf5 hB25.1 (by decide) rfl rfl rfl (c_J4_length_8abf5 hs (d := d - 1) (by omega) (a := a0) (v := v_26) (c := k_26) (bs := b_26) (w := w22) hB25 (kc := 0) (ks := 0)) (by omega) (st := [.ref a0]) (Nat.le_of_ble_eq_true rfl) rfl (kr_P fun v33 hv33 => ?_) kx_I
              subst hv33
              have hB133 := hB25.2.2.2.1
              have hB333 := hB25.2.2.2.2.2
              refine J_if_neN (pc := 36) (tgt := 44) dX8_ringsNow_36 (by decide) (by omega) (fun ht34 => ?_) (fun hf35 => ?_)
              · refine J_ldcS (pc := 44) (a := 6) (tx := " ") dX8_ringsNow_44 (List.mem_cons_of_mem _ List.mem_cons_self) ?_
                obtain ⟨os36, t36, z36, ho136, ho236, ho336, ho436⟩ := hXO.2.2.2
                have hgf38 := gL_d (k_26 + os36.length) b_26.length
                have hB137 := hB25.2.2.2.1
                have hB237 := hB25.2.2.2.2.1
                have hB337 := hB25.2.2.2.2.2
                refine J_callV (pc := 46) (as := [.retAddr 6]) dX8_ringsNow_46 fw_J4_append_15ec4 fl_X8_151 fm_J4_append_15ec4 fe_J4_append_15ec4 hB25.1 (by decide) rfl rfl rfl (c_J4_append_15ec4 hs (d := d - 1) (by omega) (a := a0) (v := v_26) (c := k_26) (bs := b_26) (w := w22) hB25 6 t36 z36 os36 ho136 ho236 ho436 (by omega) (by omega) (kc := ((gL (k_26 + os36.length) b_26.length - b_26.length) / 18)) (ks := (2 * (gL (k_26 + os36.length) b_26.length - b_26.length))) (Nat.le_refl _) (Nat.le_refl _)) (by omega) (by omega) (by omega) (st := []) (Nat.le_of_ble_eq_true rfl) rfl (kr_A fun r37 w37 hw37 => ?_) kx_A
                obtain ⟨hra37, v37', ys37, hB37, hFc37, hvv37, hp37⟩ := hw37
                obtain rfl := hra37.symm
                have hgl37 := hFc37.1
                have hB437 := hB37.2.2.2.1
                have hB537 := hB37.2.2.2.2.2
                have hB637 := hB37.2.2.2.2.1
                have h19_37 := (hFc37.2 19 (by omega) (by omega) (gl h19_30)).trans h19_30
                have h20_37 := (hFc37.2 20 (by omega) (by omega) (gl h20_30)).trans h20_30
                have h21_37 := (hFc37.2 21 (by omega) (by omega) (gl h21_30)).trans h21_30
                have h22_37 := (hFc37.2 22 (by omega) (by omega) (gl h22_30)).trans h22_30
                have hbb_37 := (hFc37.2 b (by omega) (by omega) (gl hb_30)).trans hb_30
                have hF37 := hF24.sb hFc37 (by omega) (by omega)
                refine J_iload_n (pc := 49) dX8_ringsNow_49 rfl rfl ?_
                have hgf40 := gL_d ((k_26 + os36.length) + dgs c3) ys37.length
                have hgf41 := dgs_le c3
                have hgf42 := dgs_1 (x := c3) (by omega)
                have hB139 := hB37.2.2.2.1
                have hB239 := hB37.2.2.2.2.1
                have hB339 := hB37.2.2.2.2.2
                refine J_callV (pc := 50) (as := [.int (nI c3)]) dX8_ringsNow_50 fw_J4_append_bf812 fl_X8_155 fm_J4_append_bf812 fe_J4_append_bf812 hB37.1 (by decide) rfl rfl rfl (c_J4_append_bf812 hs (d := d - 1) (by omega) hXO (a := a0) (v := v37') (c := k_26 + os36.length) (bs := ys37) (w := w37) hB37 c3 (by omega) (by omega) (kc := ((gL ((k_26 + os36.length) + dgs c3) ys37.length - ys37.length) / 18)) (ks := (2 * (gL ((k_26 + os36.length) + dgs c3) ys37.length - ys37.length))) (Nat.le_refl _) (Nat.le_refl _)) (by omega) (by omega) (by omega) (st := []) (Nat.le_of_ble_eq_true rfl) rfl (kr_A fun r39 w39 hw39 => ?_) kx_A
                obtain ⟨hra39, v39', ys39, hB39, hFc39, hvv39, hp39⟩ := hw39
                obtain rfl := hra39.symm
                have hgl39 := hFc39.1
                have hB439 := hB39.2.2.2.1
                have hB539 := hB39.2.2.2.2.2
                have hB639 := hB39.2.2.2.2.1
                have h19_39 := (hFc39.2 19 (by omega) (by omega) (gl h19_37)).trans h19_37
                have h20_39 := (hFc39.2 20 (by omega) (by omega) (gl h20_37)).trans h20_37
                have h21_39 := (hFc39.2 21 (by omega) (by omega) (gl h21_37)).trans h21_37
                have h22_39 := (hFc39.2 22 (by omega) (by omega) (gl h22_37)).trans h22_37
                have hbb_39 := (hFc39.2 b (by omega) (by omega) (gl hbb_37)).trans hbb_37
                have hF39 := hF37.sb hFc39 (by omega) (by omega)
                refine J_pop (pc := 53) dX8_ringsNow_53 rfl ?_
                refine J_iincM (pc := 54) dX8_ringsNow_54 rfl (by omega) (by decide) rfl ?_
                show J X mX8_ringsNow d (kc20 - ((gL (k_26 + os36.length) b_26.length - b_26.length) / 18) - ((gL ((k_26 + os36.length) + dgs c3) ys37.length - ys37.length) / 18)) (ks21 - (2 * (gL (k_26 + os36.length) b_26.length - b_26.length)) - (2 * (gL ((k_26 + os36.length) + dgs c3) ys37.length - ys37.length))) 57 [some (.ref 19), some (.int (nI a)), some (.ref a0), some (.int (nI c3)), some (.int (nI (c4 - 1)))] [] w39 _
                refine J_goto (pc := 57) (tgt := 26) dX8_ringsNow_57 (by decide) ?_
                exact J_sub (L' := [some (.ref 19), some (.int (nI a)), some (.ref a0), some (.int (nI c3)), some (.int (nI (c4 - 1)))]) ⟨rfl, ⟨rfl, ⟨rfl, ⟨rfl, ⟨rfl, trivial⟩⟩⟩⟩⟩ (ihlp26_19 _ _ w39 v39' (k_26 + os36.length + dgs c3) ys39 (c4 - 1) ⟨h19_39, h20_39, h21_39, h22_39, hbb_39, hbl_30, hb3_30⟩ hF39 hB39 (by omega) (by omega) (by omega) (by first | assumption | omega) (by first | assumption | omega) (by omega))
              · refine J_ldcS (pc := 39) (a := 5) (tx := "") dX8_ringsNow_39 List.mem_cons_self ?_
                refine J_goto (pc := 41) (tgt := 46) dX8_ringsNow_41 (by decide) ?_
                obtain ⟨os43, t43, z43, ho143, ho243, ho343, ho443⟩ := hXO.2.2.1
                have hgf45 := gL_d (k_26 + os43.length) b_26.length
                have hB144 := hB25.2.2.2.1
                have hB244 := hB25.2.2.2.2.1
                have hB344 := hB25.2.2.2.2.2
                refine J_callV (pc := 46) (as := [.retAddr 5]) dX8_ringsNow_46 fw_J4_append_15ec4 fl_X8_151 fm_J4_append_15ec4 fe_J4_append_15ec4 hB25.1 (by decide) rfl rfl rfl (c_J4_append_15ec4 hs (d := d - 1) (by omega) (a := a0) (v := v_26) (c := k_26) (bs := b_26) (w := w22) hB25 5 t43 z43 os43 ho143 ho243 ho443 (by omega) (by omega) (kc := ((gL (k_26 + os43.length) b_26.length - b_26.length) / 18)) (ks := (2 * (gL (k_26 + os43.length) b_26.length - b_26.length))) (Nat.le_refl _) (Nat.le_refl _)) (by omega) (by omega) (by omega) (st := []) (Nat.le_of_ble_eq_true rfl) rfl (kr_A fun r44 w44 hw44 => ?_) kx_A
                obtain ⟨hra44, v44', ys44, hB44, hFc44, hvv44, hp44⟩ := hw44
                obtain rfl := hra44.symm
                have hgl44 := hFc44.1
                have hB444 := hB44.2.2.2.1
                have hB544 := hB44.2.2.2.2.2
                have hB644 := hB44.2.2.2.2.1
                have h19_44 := (hFc44.2 19 (by omega) (by omega) (gl h19_30)).trans h19_30
                have h20_44 := (hFc44.2 20 (by omega) (by omega) (gl h20_30)).trans h20_30
                have h21_44 := (hFc44.2 21 (by omega) (by omega) (gl h21_30)).trans h21_30
                have h22_44 := (hFc44.2 22 (by omega) (by omega) (gl h22_30)).trans h22_30
                have hbb_44 := (hFc44.2 b (by omega) (by omega) (gl hb_30)).trans hb_30
                have hF44 := hF24.sb hFc44 (by omega) (by omega)
                refine J_iload_n (pc := 49) dX8_ringsNow_49 rfl rfl ?_
                have hgf47 := gL_d ((k_26 + os43.length) + dgs c3) ys44.length
                have hgf48 := dgs_le c3
                have hgf49 := dgs_1 (x := c3) (by omega)
                have hB146 := hB44.2.2.2.1
                have hB246 := hB44.2.2.2.2.1
                have hB346 := hB44.2.2.2.2.2
                refine J_callV (pc := 50) (as := [.int (nI c3)]) dX8_ringsNow_50 fw_J4_append_bf812 fl_X8_155 fm_J4_append_bf812 fe_J4_append_bf812 hB44.1 (by decide) rfl rfl rfl (c_J4_append_bf812 hs (d := d - 1) (by omega) hXO (a := a0) (v := v44') (c := k_26 + os43.length) (bs := ys44) (w := w44) hB44 c3 (by omega) (by omega) (kc := ((gL ((k_26 + os43.length) + dgs c3) ys44.length - ys44.length) / 18)) (ks := (2 * (gL ((k_26 + os43.length) + dgs c3) ys44.length - ys44.length))) (Nat.le_refl _) (Nat.le_refl _)) (by omega) (by omega) (by omega) (st := []) (Nat.le_of_ble_eq_true rfl) rfl (kr_A fun r46 w46 hw46 => ?_) kx_A
                obtain ⟨hra46, v46', ys46, hB46, hFc46, hvv46, hp46⟩ := hw46
                obtain rfl := hra46.symm
                have hgl46 := hFc46.1
                have hB446 := hB46.2.2.2.1
                have hB546 := hB46.2.2.2.2.2
                have hB646 := hB46.2.2.2.2.1
                have h19_46 := (hFc46.2 19 (by omega) (by omega) (gl h19_44)).trans h19_44
                have h20_46 := (hFc46.2 20 (by omega) (by omega) (gl h20_44)).trans h20_44
                have h21_46 := (hFc46.2 21 (by omega) (by omega) (gl h21_44)).trans h21_44
                have h22_46 := (hFc46.2 22 (by omega) (by omega) (gl h22_44)).trans h22_44
                have hbb_46 := (hFc46.2 b (by omega) (by omega) (gl hbb_44)).trans hbb_44
                have hF46 := hF44.sb hFc46 (by omega) (by omega)
                refine J_pop (pc := 53) dX8_ringsNow_53 rfl ?_
                refine J_iincM (pc := 54) dX8_ringsNow_54 rfl (by omega) (by decide) rfl ?_
                show J X mX8_ringsNow d (kc20 - ((gL (k_26 + os43.length) b_26.length - b_26.length) / 18) - ((gL ((k_26 + os43.length) + dgs c3) ys44.length - ys44.length) / 18)) (ks21 - (2 * (gL (k_26 + os43.length) b_26.length - b_26.length)) - (2 * (gL ((k_26 + os43.length) + dgs c3) ys44.length - ys44.length))) 57 [some (.ref 19), some (.int (nI a)), some (.ref a0), some (.int (nI c3)), some (.int (nI (c4 - 1)))] [] w46 _
                refine J_goto (pc := 57) (tgt := 26) dX8_ringsNow_57 (by decide) ?_
                exact J_sub (L' := [some (.ref 19), some (.int (nI a)), some (.ref a0), some (.int (nI c3)), some (.int (nI (c4 - 1)))]) ⟨rfl, ⟨rfl, ⟨rfl, ⟨rfl, ⟨rfl, trivial⟩⟩⟩⟩⟩ (ihlp26_19 _ _ w46 v46' (k_26 + os43.length + dgs c3) ys46 (c4 - 1) ⟨h19_46, h20_46, h21_46, h22_46, hbb_46, hbl_30, hb3_30⟩ hF46 hB46 (by omega) (by omega) (by omega) (by first | assumption | omega) (by first | assumption | omega) (by omega))
        exact J_sub (L' := [some (.ref 19), some (.int (nI a)), some (.ref a0), some (.int (nI c3)), some (.int (nI k18))]) ⟨rfl, ⟨rfl, ⟨rfl, ⟨rfl, ⟨rfl, trivial⟩⟩⟩⟩⟩ (lp26_19 _ _ _ w6 v_10 k_10 b_10 k18 ⟨h19_14, h20_14, h21_14, h22_14, hb_14, hbl_14, hb3_14⟩ hF8 hB9 (by omega) (by omega) (by omega) (by first | assumption | omega) (by first | assumption | omega) (Nat.lt_succ_self _))
  exact J_sub (L' := [some (.ref 19), some (.int (nI a)), some (.ref a0), some (.int (nI 1)), none]) ⟨rfl, ⟨rfl, ⟨rfl, ⟨rfl, trivial⟩⟩⟩⟩ (lp10_3 _ _ _ w2 v2' 0 ys2 1 ⟨h19_2, h20_2, h21_2, h22_2, hbb_2, hbl, hb3⟩ hF2 hB2 (by omega) (by omega) (by omega) (by first | assumption | omega) (by first | assumption | omega) (by first | assumption | omega) (Nat.lt_succ_self _))
set_option maxRecDepth 100000 in
set_option maxHeartbeats 40000000 in
theorem c_X8_text {X : jX} (hs : X.1.stackTraces = false) {d : Nat} (hd : 14 ≤ d) (hXO : XO X) {n : Nat} {mv rw nx : Nat → Nat} {b : Nat} {bt : List Int32} {kn en dn rf kk th : Int32} {w : List jC} (hR : RM n mv rw nx b bt kn en dn rf kk th w) (hn1 : 2 ≤ n) (hn2 : n ≤ 7) (gm : ∀ i, mv i < 7) (gr : ∀ i, rw i < 7) (gx : ∀ i, nx i < 7) (a : Int32) {kc ks : Nat} (hkc : 40 ≤ kc) (hks : 1500 ≤ ks) : jMet X mX8_text d kc ks [.ref 19, .int a] w (pA (fun _ w' => ∃ (th' : Int32), RM n mv rw nx b bt kn en dn rf kk th' w' ∧ FR b b w w')) := by
  refine jMet_of hs (by decide +kernel) (Nat.le_of_ble_eq_true rfl) (L := [some (.ref 19), some (.int a), none, none]) rfl ?_
  have hdm : 13 ≤ d - 1 := by omega
  have hdp : d - 1 + 1 ≤ d := by omega
  have hfc := fc_7 hn2
  have hfp := fc_pos n
  obtain ⟨h19, h20, h21, h22, hbb, hbl, hb3⟩ := hR
  have hF : FR b b w w := FR.rf
  refine J_aload_n (pc := 0) dX8_text_0 rfl rfl rfl ?_
  refine J_iload_n (pc := 1) dX8_text_1 rfl rfl ?_
  refine J_callS0 (pc := 2) (as := [.int a]) dX8_text_2 fw_X8_isCell fl_X8_108 fs_X8_isCell rfl (c_X8_isCell hs (d := d - 1) (Nat.le_trans (by decide) hdm) (w := w) a (kc := 0) (ks := 0)) hdp (st := [.ref 19]) (Nat.le_of_ble_eq_true rfl) rfl (kr_P fun v1 hv1 => ?_) kx_I
  rcases hv1 with ⟨rfl, hk1_0⟩ | ⟨q1, rfl, hk1_0, rfl⟩
  · refine J_if_neN (pc := 5) (tgt := 12) dX8_text_5 (by decide) (by decide) (fun h => absurd h (by decide)) (fun _ => ?_)
    refine J_iconst (pc := 8) (v := nI 1) dX8_text_8 (by decide) ?_
    refine J_goto (pc := 9) (tgt := 13) dX8_text_9 (by decide) ?_
    refine J_callV0 (pc := 13) (as := [.int (nI 1)]) dX8_text_13 fw_X8_isThrown_ fl_X8_105 fm_X8_isThrown_ fe_X8_isThrown_ h19 (by decide) rfl rfl rfl (c_X8_isThrown_ hs (d := d - 1) (Nat.le_trans (by decide) hdm) (w := w) (n := n) (mv := mv) (rw := rw) (nx := nx) (b := b) (bt := bt) (kn := kn) (en := en) (dn := dn) (rf := rf) (kk := kk) (th := th) ⟨h19, h20, h21, h22, hbb, hbl, hb3⟩ hn1 hn2 gm gr gx 1 (by first | assumption | omega) (kc := 0) (ks := 0)) hdp (st := []) (Nat.le_of_ble_eq_true rfl) rfl (kr_I fun v2 w2 hv2 hw2 => ?_) kx_I
    obtain ⟨hR2, hFc2⟩ := hw2
    obtain ⟨h19_2, h20_2, h21_2, h22_2, hbb_2, hbl_2, hb3_2⟩ := hR2
    have hF2 := hF.tr hFc2
    subst hv2
    show J X mX8_text d kc ks 16 [some (.ref 19), some (.int a), none, none] [.int (nI 1)] w2 _
    refine J_if_eqN (pc := 16) (tgt := 22) dX8_text_16 (by decide) (by decide) (fun h => absurd h (by decide)) (fun _ => ?_)
    refine J_ldcS (pc := 19) (a := 5) (tx := "") dX8_text_19 List.mem_cons_self ?_
    exact J_aret (pc := 21) dX8_text_21 rfl rfl rfl ⟨nI (tW 1 0), ⟨h19_2, h20_2, h21_2, h22_2, hbb_2, hbl_2, hb3_2⟩, hF2⟩
  · refine J_if_neN (pc := 5) (tgt := 12) dX8_text_5 (by decide) (by decide) (fun _ => ?_) (fun h => absurd h (by decide))
    refine J_iconst (pc := 12) (v := nI 0) dX8_text_12 (by decide) ?_
    refine J_callV0 (pc := 13) (as := [.int (nI 0)]) dX8_text_13 fw_X8_isThrown_ fl_X8_105 fm_X8_isThrown_ fe_X8_isThrown_ h19 (by decide) rfl rfl rfl (c_X8_isThrown_ hs (d := d - 1) (Nat.le_trans (by decide) hdm) (w := w) (n := n) (mv := mv) (rw := rw) (nx := nx) (b := b) (bt := bt) (kn := kn) (en := en) (dn := dn) (rf := rf) (kk := kk) (th := th) ⟨h19, h20, h21, h22, hbb, hbl, hb3⟩ hn1 hn2 gm gr gx 0 (by first | assumption | omega) (kc := 0) (ks := 0)) hdp (st := []) (Nat.le_of_ble_eq_true rfl) rfl (kr_I fun v3 w3 hv3 hw3 => ?_) kx_I
    obtain ⟨hR3, hFc3⟩ := hw3
    obtain ⟨h19_3, h20_3, h21_3, h22_3, hbb_3, hbl_3, hb3_3⟩ := hR3
    have hF3 := hF.tr hFc3
    subst hv3
    show J X mX8_text d kc ks 16 [some (.ref 19), some (.int (nI q1)), none, none] [.int (nI 0)] w3 _
    refine J_if_eqN (pc := 16) (tgt := 22) dX8_text_16 (by decide) (by decide) (fun _ => ?_) (fun h => absurd h (by decide))
    have q194 := gl h19_3
    have q204 := gl h20_3
    have q214 := gl h21_3
    have q224 := gl h22_3
    have qb4 := gl hbb_3
    have qF4 := hF3.1
    refine J_newO (pc := 22) (fs := [.null, .int (nI 0), .int (nI 0), .int (nI 0)]) dX8_text_22 kC1 fc_X8_146 fi_J4 fz_J4 df_J4 (by omega) (by omega) (fun a22 w4 ha4 hln4 hc4 hne4 => ?_)
    have h19_4 := (hne4 19 (by omega)).trans h19_3
    have h20_4 := (hne4 20 (by omega)).trans h20_3
    have h21_4 := (hne4 21 (by omega)).trans h21_3
    have h22_4 := (hne4 22 (by omega)).trans h22_3
    have hb_4 := (hne4 _ (by omega)).trans hbb_3
    have hF4 := hF3.pu ha4 hln4 hne4
    have qa4 : 23 ≤ a22 := by omega
    have qb4 : a22 ≠ b := by omega
    have qw4 : w.length ≤ a22 := by omega
    refine J_dup (pc := 25) dX8_text_25 rfl ?_
    refine J_callI (pc := 26) (as := []) dX8_text_26 fw_J4_init_da8c8 fl_X8_148 fm_J4_init_da8c8 rfl rfl rfl (c_J4_init_da8c8 hs (d := d - 1) (by omega) (w := w4) a22 hc4 (kc := 1) (ks := 16) (Nat.le_refl _) (Nat.le_refl _)) (by omega) (by omega) (by omega) (st := [.ref a22]) (Nat.le_of_ble_eq_true rfl) rfl (kr_V fun w5 hw5 => ?_) kx_V
    obtain ⟨v5', ys5, hB5, hFc5, hvv5⟩ := hw5
    have hgl5 := hFc5.1
    have hbl5 := hB5.2.2.2.2.1
    have h19_5 := (hFc5.2 19 (by omega) (by omega) (gl h19_4)).trans h19_4
    have h20_5 := (hFc5.2 20 (by omega) (by omega) (gl h20_4)).trans h20_4
    have h21_5 := (hFc5.2 21 (by omega) (by omega) (gl h21_4)).trans h21_4
    have h22_5 := (hFc5.2 22 (by omega) (by omega) (gl h22_4)).trans h22_4
    have hbb_5 := (hFc5.2 b (by omega) (by omega) (gl hb_4)).trans hb_4
    have hF5 := hF4.sb hFc5 (by omega) (by omega)
    refine J_astore_n (pc := 29) dX8_text_29 rfl (by decide) rfl rfl ?_
    show J X mX8_text d (kc - 1 - 1) (ks - 4 - 16) 30 [some (.ref 19), some (.int (nI q1)), some (.ref a22), none] [] w5 _
    refine J_iconst (pc := 30) (v := nI 0) dX8_text_30 (by decide) ?_
    refine J_istore_n (pc := 31) dX8_text_31 rfl (by decide) rfl ?_
    show J X mX8_text d (kc - 1 - 1) (ks - 4 - 16) 32 [some (.ref 19), some (.int (nI q1)), some (.ref a22), some (.int (nI 0))] [] w5 _
    have lp32_6 : ∀ (fuel : Nat) (kc7 ks8 : Nat) (w9 : List jC) (v_32 k_32 : Nat) (b_32 : List Int32) (c3 : Nat), (RM n mv rw nx b bt kn en dn rf kk (nI (tW 0 0)) w9) → (FR b b w w9) → (SBp a22 v_32 (nI 0) k_32 b_32 w9) → (w.length ≤ v_32) → ((620 - b_32.length) / 18 ≤ kc7) → (1240 - 2 * b_32.length ≤ ks8) → (c3 ≤ n) → (k_32 ≤ 2 * c3) → (n - c3 < fuel) → J X mX8_text d kc7 ks8 32 [some (.ref 19), some (.int (nI q1)), some (.ref a22), some (.int (nI c3))] [] w9 (pA (fun _ w' => ∃ (th' : Int32), RM n mv rw nx b bt kn en dn rf kk th' w' ∧ FR b b w w')) := by
      intro fuellp32_6
      induction fuellp32_6 with
      | zero => intros; omega
      | succ fuellp32_6 ihlp32_6 =>
        intro kc7 ks8 w9 v_32 k_32 b_32 c3 hR10 hF11 hB12 hv13 hr14 hr15 hv32_0 hv32_1 hf16
        obtain ⟨h19_17, h20_17, h21_17, h22_17, hb_17, hbl_17, hb3_17⟩ := hR10
        refine J_iload_n (pc := 32) dX8_text_32 rfl rfl ?_
        refine J_aload_n (pc := 33) dX8_text_33 rfl rfl rfl ?_
        refine J_get (pc := 34) (k := 0) dX8_text_34 kC9 (by decide) ff_X8_7 h19_17 rfl ?_
        refine J_icmp_geN (pc := 37) (tgt := 71) dX8_text_37 (by decide) (by omega) (by omega) (fun ht18 => ?_) (fun hf19 => ?_)
        · refine J_aload_n (pc := 71) dX8_text_71 rfl rfl rfl ?_
          have hB120 := hB12.2.2.2.1
          have hB320 := hB12.2.2.2.2.2
          refine J_callV (pc := 72) (as := []) dX8_text_72 fw_J4_toString_0e30d fl_X8_158 fm_J4_toString_0e30d fe_J4_toString_0e30d hB12.1 (by decide) rfl rfl rfl (c_J4_toString_0e30d hs (d := d - 1) (by omega) (a := a22) (v := v_32) (c := k_32) (bs := b_32) (w := w9) hB12 (kc := 2) (ks := k_32 + 4) (Nat.le_refl _) (Nat.le_refl _)) (by omega) (by omega) (by omega) (st := []) (Nat.le_of_ble_eq_true rfl) rfl (kr_A fun r20 w20 hw20 => ?_) kx_A
          obtain ⟨hra20, hln20, hne20, vz20, zs20, hco20, hcn20, hyl20⟩ := hw20
          have h19_20 := (hne20 19 (gl h19_17)).trans h19_17
          have h20_20 := (hne20 20 (gl h20_17)).trans h20_17
          have h21_20 := (hne20 21 (gl h21_17)).trans h21_17
          have h22_20 := (hne20 22 (gl h22_17)).trans h22_17
          have hbb_20 := (hne20 b (gl hb_17)).trans hb_17
          have hF20 := hF11.gr hln20 hne20
          exact J_aret (pc := 75) dX8_text_75 rfl rfl rfl ⟨nI (tW 0 0), ⟨h19_20, h20_20, h21_20, h22_20, hbb_20, hbl_17, hb3_17⟩, hF20⟩
        · refine J_aload_n (pc := 40) dX8_text_40 rfl rfl rfl ?_
          refine J_iload_n (pc := 41) dX8_text_41 rfl rfl ?_
          refine J_if_neN (pc := 42) (tgt := 50) dX8_text_42 (by decide) (by omega) (fun ht21 => ?_) (fun hf22 => ?_)
          · refine J_ldcS (pc := 50) (a := 6) (tx := " ") dX8_text_50 (List.mem_cons_of_mem _ List.mem_cons_self) ?_
            obtain ⟨os23, t23, z23, ho123, ho223, ho323, ho423⟩ := hXO.2.2.2
            have hgf25 := gL_d (k_32 + os23.length) b_32.length
            have hB124 := hB12.2.2.2.1
            have hB224 := hB12.2.2.2.2.1
            have hB324 := hB12.2.2.2.2.2
            refine J_callV (pc := 52) (as := [.retAddr 6]) dX8_text_52 fw_J4_append_15ec4 fl_X8_151 fm_J4_append_15ec4 fe_J4_append_15ec4 hB12.1 (by decide) rfl rfl rfl (c_J4_append_15ec4 hs (d := d - 1) (by omega) (a := a22) (v := v_32) (c := k_32) (bs := b_32) (w := w9) hB12 6 t23 z23 os23 ho123 ho223 ho423 (by omega) (by omega) (kc := ((gL (k_32 + os23.length) b_32.length - b_32.length) / 18)) (ks := (2 * (gL (k_32 + os23.length) b_32.length - b_32.length))) (Nat.le_refl _) (Nat.le_refl _)) (by omega) (by omega) (by omega) (st := []) (Nat.le_of_ble_eq_true rfl) rfl (kr_A fun r24 w24 hw24 => ?_) kx_A
            obtain ⟨hra24, v24', ys24, hB24, hFc24, hvv24, hp24⟩ := hw24
            obtain rfl := hra24.symm
            have hgl24 := hFc24.1
            have hB424 := hB24.2.2.2.1
            have hB524 := hB24.2.2.2.2.2
            have hB624 := hB24.2.2.2.2.1
            have h19_24 := (hFc24.2 19 (by omega) (by omega) (gl h19_17)).trans h19_17
            have h20_24 := (hFc24.2 20 (by omega) (by omega) (gl h20_17)).trans h20_17
            have h21_24 := (hFc24.2 21 (by omega) (by omega) (gl h21_17)).trans h21_17
            have h22_24 := (hFc24.2 22 (by omega) (by omega) (gl h22_17)).trans h22_17
            have hbb_24 := (hFc24.2 b (by omega) (by omega) (gl hb_17)).trans hb_17
            have hF24 := hF11.sb hFc24 (by omega) (by omega)
            refine J_aload_n (pc := 55) dX8_text_55 rfl rfl rfl ?_
            refine J_iload_n (pc := 56) dX8_text_56 rfl rfl ?_
            refine J_iload_n (pc := 57) dX8_text_57 rfl rfl ?_
            refine J_callV0 (pc := 58) (as := [.int (nI q1), .int (nI c3)]) dX8_text_58 fw_X8_at fl_X8_82 fm_X8_at fe_X8_at h19_24 (by decide) rfl rfl rfl (c_X8_at hs (d := d - 1) (Nat.le_trans (by decide) hdm) (w := w24) (n := n) (mv := mv) (rw := rw) (nx := nx) (b := b) (bt := bt) (kn := kn) (en := en) (dn := dn) (rf := rf) (kk := kk) (th := nI (tW 0 0)) ⟨h19_24, h20_24, h21_24, h22_24, hbb_24, hbl_17, hb3_17⟩ hn1 hn2 gm gr gx q1 c3 (by first | assumption | omega) (by first | assumption | omega) (kc := 0) (ks := 0)) hdp (st := [.ref a22]) (Nat.le_of_ble_eq_true rfl) rfl (kr_P fun v26 hv26 => ?_) kx_I
            subst hv26
            have hq27 := gm (q1 * 7 + c3)
            have hgf29 := gL_d ((k_32 + os23.length) + dgs (mv (q1 * 7 + c3))) ys24.length
            have hgf30 := dgs_le (mv (q1 * 7 + c3))
            have hgf31 := dgs_1 (x := mv (q1 * 7 + c3)) (by omega)
            have hB128 := hB24.2.2.2.1
            have hB228 := hB24.2.2.2.2.1
            have hB328 := hB24.2.2.2.2.2
            refine J_callV (pc := 61) (as := [.int (nI (mv (q1 * 7 + c3)))]) dX8_text_61 fw_J4_append_bf812 fl_X8_155 fm_J4_append_bf812 fe_J4_append_bf812 hB24.1 (by decide) rfl rfl rfl (c_J4_append_bf812 hs (d := d - 1) (by omega) hXO (a := a22) (v := v24') (c := k_32 + os23.length) (bs := ys24) (w := w24) hB24 (mv (q1 * 7 + c3)) (by omega) (by omega) (kc := ((gL ((k_32 + os23.length) + dgs (mv (q1 * 7 + c3))) ys24.length - ys24.length) / 18)) (ks := (2 * (gL ((k_32 + os23.length) + dgs (mv (q1 * 7 + c3))) ys24.length - ys24.length))) (Nat.le_refl _) (Nat.le_refl _)) (by omega) (by omega) (by omega) (st := []) (Nat.le_of_ble_eq_true rfl) rfl (kr_A fun r28 w28 hw28 => ?_) kx_A
            obtain ⟨hra28, v28', ys28, hB28, hFc28, hvv28, hp28⟩ := hw28
            obtain rfl := hra28.symm
            have hgl28 := hFc28.1
            have hB428 := hB28.2.2.2.1
            have hB528 := hB28.2.2.2.2.2
            have hB628 := hB28.2.2.2.2.1
            have h19_28 := (hFc28.2 19 (by omega) (by omega) (gl h19_24)).trans h19_24
            have h20_28 := (hFc28.2 20 (by omega) (by omega) (gl h20_24)).trans h20_24
            have h21_28 := (hFc28.2 21 (by omega) (by omega) (gl h21_24)).trans h21_24
            have h22_28 := (hFc28.2 22 (by omega) (by omega) (gl h22_24)).trans h22_24
            have hbb_28 := (hFc28.2 b (by omega) (by omega) (gl hbb_24)).trans hbb_24
            have hF28 := hF24.sb hFc28 (by omega) (by omega)
            refine J_pop (pc := 64) dX8_text_64 rfl ?_
            refine J_iincN (pc := 65) (b := 1) dX8_text_65 rfl (by decide) (by decide) rfl ?_
            show J X mX8_text d (kc7 - ((gL (k_32 + os23.length) b_32.length - b_32.length) / 18) - ((gL ((k_32 + os23.length) + dgs (mv (q1 * 7 + c3))) ys24.length - ys24.length) / 18)) (ks8 - (2 * (gL (k_32 + os23.length) b_32.length - b_32.length)) - (2 * (gL ((k_32 + os23.length) + dgs (mv (q1 * 7 + c3))) ys24.length - ys24.length))) 68 [some (.ref 19), some (.int (nI q1)), some (.ref a22), some (.int (nI (c3 + 1)))] [] w28 _
            refine J_goto (pc := 68) (tgt := 32) dX8_text_68 (by decide) ?_
            exact J_sub (L' := [some (.ref 19), some (.int (nI q1)), some (.ref a22), some (.int (nI (c3 + 1)))]) ⟨rfl, ⟨rfl, ⟨rfl, ⟨rfl, trivial⟩⟩⟩⟩ (ihlp32_6 _ _ w28 v28' (k_32 + os23.length + dgs (mv (q1 * 7 + c3))) ys28 (c3 + 1) ⟨h19_28, h20_28, h21_28, h22_28, hbb_28, hbl_17, hb3_17⟩ hF28 hB28 (by omega) (by omega) (by omega) (by first | assumption | omega) (by first | assumption | omega) (by omega))
          · refine J_ldcS (pc := 45) (a := 5) (tx := "") dX8_text_45 List.mem_cons_self ?_
            refine J_goto (pc := 47) (tgt := 52) dX8_text_47 (by decide) ?_
            obtain ⟨os32, t32, z32, ho132, ho232, ho332, ho432⟩ := hXO.2.2.1
            have hgf34 := gL_d (k_32 + os32.length) b_32.length
            have hB133 := hB12.2.2.2.1
            have hB233 := hB12.2.2.2.2.1
            have hB333 := hB12.2.2.2.2.2
            refine J_callV (pc := 52) (as := [.retAddr 5]) dX8_text_52 fw_J4_append_15ec4 fl_X8_151 fm_J4_append_15ec4 fe_J4_append_15ec4 hB12.1 (by decide) rfl rfl rfl (c_J4_append_15ec4 hs (d := d - 1) (by omega) (a := a22) (v := v_32) (c := k_32) (bs := b_32) (w := w9) hB12 5 t32 z32 os32 ho132 ho232 ho432 (by omega) (by omega) (kc := ((gL (k_32 + os32.length) b_32.length - b_32.length) / 18)) (ks := (2 * (gL (k_32 + os32.length) b_32.length - b_32.length))) (Nat.le_refl _) (Nat.le_refl _)) (by omega) (by omega) (by omega) (st := []) (Nat.le_of_ble_eq_true rfl) rfl (kr_A fun r33 w33 hw33 => ?_) kx_A
            obtain ⟨hra33, v33', ys33, hB33, hFc33, hvv33, hp33⟩ := hw33
            obtain rfl := hra33.symm
            have hgl33 := hFc33.1
            have hB433 := hB33.2.2.2.1
            have hB533 := hB33.2.2.2.2.2
            have hB633 := hB33.2.2.2.2.1
            have h19_33 := (hFc33.2 19 (by omega) (by omega) (gl h19_17)).trans h19_17
            have h20_33 := (hFc33.2 20 (by omega) (by omega) (gl h20_17)).trans h20_17
            have h21_33 := (hFc33.2 21 (by omega) (by omega) (gl h21_17)).trans h21_17
            have h22_33 := (hFc33.2 22 (by omega) (by omega) (gl h22_17)).trans h22_17
            have hbb_33 := (hFc33.2 b (by omega) (by omega) (gl hb_17)).trans hb_17
            have hF33 := hF11.sb hFc33 (by omega) (by omega)
            refine J_aload_n (pc := 55) dX8_text_55 rfl rfl rfl ?_
            refine J_iload_n (pc := 56) dX8_text_56 rfl rfl ?_
            refine J_iload_n (pc := 57) dX8_text_57 rfl rfl ?_
            refine J_callV0 (pc := 58) (as := [.int (nI q1), .int (nI c3)]) dX8_text_58 fw_X8_at fl_X8_82 fm_X8_at fe_X8_at h19_33 (by decide) rfl rfl rfl (c_X8_at hs (d := d - 1) (Nat.le_trans (by decide) hdm) (w := w33) (n := n) (mv := mv) (rw := rw) (nx := nx) (b := b) (bt := bt) (kn := kn) (en := en) (dn := dn) (rf := rf) (kk := kk) (th := nI (tW 0 0)) ⟨h19_33, h20_33, h21_33, h22_33, hbb_33, hbl_17, hb3_17⟩ hn1 hn2 gm gr gx q1 c3 (by first | assumption | omega) (by first | assumption | omega) (kc := 0) (ks := 0)) hdp (st := [.ref a22]) (Nat.le_of_ble_eq_true rfl) rfl (kr_P fun v35 hv35 => ?_) kx_I
            subst hv35
            have hq36 := gm (q1 * 7 + c3)
            have hgf38 := gL_d ((k_32 + os32.length) + dgs (mv (q1 * 7 + c3))) ys33.length
            have hgf39 := dgs_le (mv (q1 * 7 + c3))
            have hgf40 := dgs_1 (x := mv (q1 * 7 + c3)) (by omega)
            have hB137 := hB33.2.2.2.1
            have hB237 := hB33.2.2.2.2.1
            have hB337 := hB33.2.2.2.2.2
            refine J_callV (pc := 61) (as := [.int (nI (mv (q1 * 7 + c3)))]) dX8_text_61 fw_J4_append_bf812 fl_X8_155 fm_J4_append_bf812 fe_J4_append_bf812 hB33.1 (by decide) rfl rfl rfl (c_J4_append_bf812 hs (d := d - 1) (by omega) hXO (a := a22) (v := v33') (c := k_32 + os32.length) (bs := ys33) (w := w33) hB33 (mv (q1 * 7 + c3)) (by omega) (by omega) (kc := ((gL ((k_32 + os32.length) + dgs (mv (q1 * 7 + c3))) ys33.length - ys33.length) / 18)) (ks := (2 * (gL ((k_32 + os32.length) + dgs (mv (q1 * 7 + c3))) ys33.length - ys33.length))) (Nat.le_refl _) (Nat.le_refl _)) (by omega) (by omega) (by omega) (st := []) (Nat.le_of_ble_eq_true rfl) rfl (kr_A fun r37 w37 hw37 => ?_) kx_A
            obtain ⟨hra37, v37', ys37, hB37, hFc37, hvv37, hp37⟩ := hw37
            obtain rfl := hra37.symm
            have hgl37 := hFc37.1
            have hB437 := hB37.2.2.2.1
            have hB537 := hB37.2.2.2.2.2
            have hB637 := hB37.2.2.2.2.1
            have h19_37 := (hFc37.2 19 (by omega) (by omega) (gl h19_33)).trans h19_33
            have h20_37 := (hFc37.2 20 (by omega) (by omega) (gl h20_33)).trans h20_33
            have h21_37 := (hFc37.2 21 (by omega) (by omega) (gl h21_33)).trans h21_33
            have h22_37 := (hFc37.2 22 (by omega) (by omega) (gl h22_33)).trans h22_33
            have hbb_37 := (hFc37.2 b (by omega) (by omega) (gl hbb_33)).trans hbb_33
            have hF37 := hF33.sb hFc37 (by omega) (by omega)
            refine J_pop (pc := 64) dX8_text_64 rfl ?_
            refine J_iincN (pc := 65) (b := 1) dX8_text_65 rfl (by decide) (by decide) rfl ?_
            show J X mX8_text d (kc7 - ((gL (k_32 + os32.length) b_32.length - b_32.length) / 18) - ((gL ((k_32 + os32.length) + dgs (mv (q1 * 7 + c3))) ys33.length - ys33.length) / 18)) (ks8 - (2 * (gL (k_32 + os32.length) b_32.length - b_32.length)) - (2 * (gL ((k_32 + os32.length) + dgs (mv (q1 * 7 + c3))) ys33.length - ys33.length))) 68 [some (.ref 19), some (.int (nI q1)), some (.ref a22), some (.int (nI (c3 + 1)))] [] w37 _
            refine J_goto (pc := 68) (tgt := 32) dX8_text_68 (by decide) ?_
            exact J_sub (L' := [some (.ref 19), some (.int (nI q1)), some (.ref a22), some (.int (nI (c3 + 1)))]) ⟨rfl, ⟨rfl, ⟨rfl, ⟨rfl, trivial⟩⟩⟩⟩ (ihlp32_6 _ _ w37 v37' (k_32 + os32.length + dgs (mv (q1 * 7 + c3))) ys37 (c3 + 1) ⟨h19_37, h20_37, h21_37, h22_37, hbb_37, hbl_17, hb3_17⟩ hF37 hB37 (by omega) (by omega) (by omega) (by first | assumption | omega) (by first | assumption | omega) (by omega))
    exact J_sub (L' := [some (.ref 19), some (.int (nI q1)), some (.ref a22), some (.int (nI 0))]) ⟨rfl, ⟨rfl, ⟨rfl, ⟨rfl, trivial⟩⟩⟩⟩ (lp32_6 _ _ _ w5 v5' 0 ys5 0 ⟨h19_5, h20_5, h21_5, h22_5, hbb_5, hbl_3, hb3_3⟩ hF5 hB5 (by omega) (by omega) (by omega) (by first | assumption | omega) (by first | assumption | omega) (Nat.lt_succ_self _))
set_option maxRecDepth 100000 in
set_option maxHeartbeats 40000000 in
theorem c_X8_rings {X : jX} (hs : X.1.stackTraces = false) {d : Nat} (hd : 15 ≤ d) (hXO : XO X) {n : Nat} {mv rw nx : Nat → Nat} {b : Nat} {bt : List Int32} {kn en dn rf kk th : Int32} {w : List jC} (hR : RM n mv rw nx b bt kn en dn rf kk th w) (hn1 : 2 ≤ n) (hn2 : n ≤ 7) (gm : ∀ i, mv i < 7) (gr : ∀ i, rw i < 7) (gx : ∀ i, nx i < 7) (a : Int32) (hy0 : PM n mv) {kc ks : Nat} (hkc : 40 ≤ kc) (hks : 1500 ≤ ks) : jMet X mX8_rings d kc ks [.ref 19, .int a] w (pA (fun _ w' => ∃ (th' : Int32), RM n mv rw nx b bt kn en dn rf kk th' w' ∧ FR b b w w')) := by
  refine jMet_of hs (by decide +kernel) (Nat.le_of_ble_eq_true rfl) (L := [some (.ref 19), some (.int a)]) rfl ?_
  have hdm : 14 ≤ d - 1 := by omega
  have hdp : d - 1 + 1 ≤ d := by omega
  have hfc := fc_7 hn2
  have hfp := fc_pos n
  obtain ⟨h19, h20, h21, h22, hbb, hbl, hb3⟩ := hR
  have hF : FR b b w w := FR.rf
  refine J_aload_n (pc := 0) dX8_rings_0 rfl rfl rfl ?_
  refine J_iload_n (pc := 1) dX8_rings_1 rfl rfl ?_
  refine J_callS0 (pc := 2) (as := [.int a]) dX8_rings_2 fw_X8_isCell fl_X8_108 fs_X8_isCell rfl (c_X8_isCell hs (d := d - 1) (Nat.le_trans (by decide) hdm) (w := w) a (kc := 0) (ks := 0)) hdp (st := [.ref 19]) (Nat.le_of_ble_eq_true rfl) rfl (kr_P fun v1 hv1 => ?_) kx_I
  rcases hv1 with ⟨rfl, hk1_0⟩ | ⟨q1, rfl, hk1_0, rfl⟩
  · refine J_if_neN (pc := 5) (tgt := 12) dX8_rings_5 (by decide) (by decide) (fun h => absurd h (by decide)) (fun _ => ?_)
    refine J_iconst (pc := 8) (v := nI 1) dX8_rings_8 (by decide) ?_
    refine J_goto (pc := 9) (tgt := 13) dX8_rings_9 (by decide) ?_
    refine J_callV0 (pc := 13) (as := [.int (nI 1)]) dX8_rings_13 fw_X8_isThrown_ fl_X8_105 fm_X8_isThrown_ fe_X8_isThrown_ h19 (by decide) rfl rfl rfl (c_X8_isThrown_ hs (d := d - 1) (Nat.le_trans (by decide) hdm) (w := w) (n := n) (mv := mv) (rw := rw) (nx := nx) (b := b) (bt := bt) (kn := kn) (en := en) (dn := dn) (rf := rf) (kk := kk) (th := th) ⟨h19, h20, h21, h22, hbb, hbl, hb3⟩ hn1 hn2 gm gr gx 1 (by first | assumption | omega) (kc := 0) (ks := 0)) hdp (st := []) (Nat.le_of_ble_eq_true rfl) rfl (kr_I fun v2 w2 hv2 hw2 => ?_) kx_I
    obtain ⟨hR2, hFc2⟩ := hw2
    obtain ⟨h19_2, h20_2, h21_2, h22_2, hbb_2, hbl_2, hb3_2⟩ := hR2
    have hF2 := hF.tr hFc2
    subst hv2
    show J X mX8_rings d kc ks 16 [some (.ref 19), some (.int a)] [.int (nI 1)] w2 _
    refine J_if_eqN (pc := 16) (tgt := 24) dX8_rings_16 (by decide) (by decide) (fun h => absurd h (by decide)) (fun _ => ?_)
    refine J_ldcS (pc := 19) (a := 5) (tx := "") dX8_rings_19 List.mem_cons_self ?_
    refine J_goto (pc := 21) (tgt := 29) dX8_rings_21 (by decide) ?_
    exact J_aret (pc := 29) dX8_rings_29 rfl rfl rfl ⟨nI (tW 1 0), ⟨h19_2, h20_2, h21_2, h22_2, hbb_2, hbl_2, hb3_2⟩, hF2⟩
  · refine J_if_neN (pc := 5) (tgt := 12) dX8_rings_5 (by decide) (by decide) (fun _ => ?_) (fun h => absurd h (by decide))
    refine J_iconst (pc := 12) (v := nI 0) dX8_rings_12 (by decide) ?_
    refine J_callV0 (pc := 13) (as := [.int (nI 0)]) dX8_rings_13 fw_X8_isThrown_ fl_X8_105 fm_X8_isThrown_ fe_X8_isThrown_ h19 (by decide) rfl rfl rfl (c_X8_isThrown_ hs (d := d - 1) (Nat.le_trans (by decide) hdm) (w := w) (n := n) (mv := mv) (rw := rw) (nx := nx) (b := b) (bt := bt) (kn := kn) (en := en) (dn := dn) (rf := rf) (kk := kk) (th := th) ⟨h19, h20, h21, h22, hbb, hbl, hb3⟩ hn1 hn2 gm gr gx 0 (by first | assumption | omega) (kc := 0) (ks := 0)) hdp (st := []) (Nat.le_of_ble_eq_true rfl) rfl (kr_I fun v3 w3 hv3 hw3 => ?_) kx_I
    obtain ⟨hR3, hFc3⟩ := hw3
    obtain ⟨h19_3, h20_3, h21_3, h22_3, hbb_3, hbl_3, hb3_3⟩ := hR3
    have hF3 := hF.tr hFc3
    subst hv3
    show J X mX8_rings d kc ks 16 [some (.ref 19), some (.int (nI q1))] [.int (nI 0)] w3 _
    refine J_if_eqN (pc := 16) (tgt := 24) dX8_rings_16 (by decide) (by decide) (fun _ => ?_) (fun h => absurd h (by decide))
    refine J_aload_n (pc := 24) dX8_rings_24 rfl rfl rfl ?_
    refine J_iload_n (pc := 25) dX8_rings_25 rfl rfl ?_
    refine J_callV (pc := 26) (as := [.int (nI q1)]) dX8_rings_26 fw_X8_ringsNow fl_X8_168 fm_X8_ringsNow fe_X8_ringsNow h19_3 (by decide) rfl rfl rfl (c_X8_ringsNow hs (d := d - 1) (by omega) hXO (w := w3) (n := n) (mv := mv) (rw := rw) (nx := nx) (b := b) (bt := bt) (kn := kn) (en := en) (dn := dn) (rf := rf) (kk := kk) (th := nI (tW 0 0)) ⟨h19_3, h20_3, h21_3, h22_3, hbb_3, hbl_3, hb3_3⟩ hn1 hn2 gm gr gx q1 (by omega) (by assumption) (kc := 40) (ks := 1500) (Nat.le_refl _) (Nat.le_refl _)) (by omega) (by omega) (by omega) (st := []) (Nat.le_of_ble_eq_true rfl) rfl (kr_A fun r4 w4 hw4 => ?_) kx_A
    obtain ⟨hR4, hFc4, vz4, zs4, hco4, hcn4, hyl4⟩ := hw4
    obtain ⟨h19_4, h20_4, h21_4, h22_4, hbb_4, hbl_4, hb3_4⟩ := hR4
    have hF4 := hF3.tr hFc4
    exact J_aret (pc := 29) dX8_rings_29 rfl rfl rfl ⟨nI (tW 0 0), ⟨h19_4, h20_4, h21_4, h22_4, hbb_4, hbl_4, hb3_4⟩, hF4⟩
set_option maxRecDepth 100000 in
set_option maxHeartbeats 40000000 in
theorem c_X8_ringText {X : jX} (hs : X.1.stackTraces = false) {d : Nat} (hd : 14 ≤ d) (hXO : XO X) {n : Nat} {mv rw nx : Nat → Nat} {b : Nat} {bt : List Int32} {kn en dn rf kk th : Int32} {w : List jC} (hR : RM n mv rw nx b bt kn en dn rf kk th w) (hn1 : 2 ≤ n) (hn2 : n ≤ 7) (gm : ∀ i, mv i < 7) (gr : ∀ i, rw i < 7) (gx : ∀ i, nx i < 7) (a : Int32) (c : Int32) (hy0 : PM n mv) {kc ks : Nat} (hkc : 40 ≤ kc) (hks : 1500 ≤ ks) : jMet X mX8_ringText d kc ks [.ref 19, .int a, .int c] w (pA (fun _ w' => ∃ (th' : Int32), RM n mv rw nx b bt kn en dn rf kk th' w' ∧ FR b b w w')) := by
  refine jMet_of hs (by decide +kernel) (Nat.le_of_ble_eq_true rfl) (L := [some (.ref 19), some (.int a), some (.int c), none, none]) rfl ?_
  have hdm : 13 ≤ d - 1 := by omega
  have hdp : d - 1 + 1 ≤ d := by omega
  have hfc := fc_7 hn2
  have hfp := fc_pos n
  obtain ⟨h19, h20, h21, h22, hbb, hbl, hb3⟩ := hR
  have hF : FR b b w w := FR.rf
  refine J_aload_n (pc := 0) dX8_ringText_0 rfl rfl rfl ?_
  refine J_iload_n (pc := 1) dX8_ringText_1 rfl rfl ?_
  refine J_callS0 (pc := 2) (as := [.int a]) dX8_ringText_2 fw_X8_isCell fl_X8_108 fs_X8_isCell rfl (c_X8_isCell hs (d := d - 1) (Nat.le_trans (by decide) hdm) (w := w) a (kc := 0) (ks := 0)) hdp (st := [.ref 19]) (Nat.le_of_ble_eq_true rfl) rfl (kr_P fun v1 hv1 => ?_) kx_I
  rcases hv1 with ⟨rfl, hk1_0⟩ | ⟨q1, rfl, hk1_0, rfl⟩
  · refine J_if_eqN (pc := 5) (tgt := 16) dX8_ringText_5 (by decide) (by decide) (fun _ => ?_) (fun h => absurd h (by decide))
    refine J_iconst (pc := 16) (v := nI 1) dX8_ringText_16 (by decide) ?_
    refine J_goto (pc := 17) (tgt := 21) dX8_ringText_17 (by decide) ?_
    refine J_callV0 (pc := 21) (as := [.int (nI 1)]) dX8_ringText_21 fw_X8_isThrown_ fl_X8_105 fm_X8_isThrown_ fe_X8_isThrown_ h19 (by decide) rfl rfl rfl (c_X8_isThrown_ hs (d := d - 1) (Nat.le_trans (by decide) hdm) (w := w) (n := n) (mv := mv) (rw := rw) (nx := nx) (b := b) (bt := bt) (kn := kn) (en := en) (dn := dn) (rf := rf) (kk := kk) (th := th) ⟨h19, h20, h21, h22, hbb, hbl, hb3⟩ hn1 hn2 gm gr gx 1 (by first | assumption | omega) (kc := 0) (ks := 0)) hdp (st := []) (Nat.le_of_ble_eq_true rfl) rfl (kr_I fun v2 w2 hv2 hw2 => ?_) kx_I
    obtain ⟨hR2, hFc2⟩ := hw2
    obtain ⟨h19_2, h20_2, h21_2, h22_2, hbb_2, hbl_2, hb3_2⟩ := hR2
    have hF2 := hF.tr hFc2
    subst hv2
    show J X mX8_ringText d kc ks 24 [some (.ref 19), some (.int a), some (.int c), none, none] [.int (nI 1)] w2 _
    refine J_if_eqN (pc := 24) (tgt := 30) dX8_ringText_24 (by decide) (by decide) (fun h => absurd h (by decide)) (fun _ => ?_)
    refine J_ldcS (pc := 27) (a := 5) (tx := "") dX8_ringText_27 List.mem_cons_self ?_
    exact J_aret (pc := 29) dX8_ringText_29 rfl rfl rfl ⟨nI (tW 1 0), ⟨h19_2, h20_2, h21_2, h22_2, hbb_2, hbl_2, hb3_2⟩, hF2⟩
  · refine J_if_eqN (pc := 5) (tgt := 16) dX8_ringText_5 (by decide) (by decide) (fun h => absurd h (by decide)) (fun _ => ?_)
    refine J_aload_n (pc := 8) dX8_ringText_8 rfl rfl rfl ?_
    refine J_iload_n (pc := 9) dX8_ringText_9 rfl rfl ?_
    refine J_callV0 (pc := 10) (as := [.int c]) dX8_ringText_10 fw_X8_isPoint fl_X8_118 fm_X8_isPoint fe_X8_isPoint h19 (by decide) rfl rfl rfl (c_X8_isPoint hs (d := d - 1) (Nat.le_trans (by decide) hdm) (w := w) (n := n) (mv := mv) (rw := rw) (nx := nx) (b := b) (bt := bt) (kn := kn) (en := en) (dn := dn) (rf := rf) (kk := kk) (th := th) ⟨h19, h20, h21, h22, hbb, hbl, hb3⟩ hn1 hn2 gm gr gx c (kc := 0) (ks := 0)) hdp (st := [.ref 19]) (Nat.le_of_ble_eq_true rfl) rfl (kr_P fun v3 hv3 => ?_) kx_I
    rcases hv3 with ⟨rfl, hk3_0⟩ | ⟨q3, rfl, hk3_0, rfl⟩
    · refine J_if_neN (pc := 13) (tgt := 20) dX8_ringText_13 (by decide) (by decide) (fun h => absurd h (by decide)) (fun _ => ?_)
      refine J_iconst (pc := 16) (v := nI 1) dX8_ringText_16 (by decide) ?_
      refine J_goto (pc := 17) (tgt := 21) dX8_ringText_17 (by decide) ?_
      refine J_callV0 (pc := 21) (as := [.int (nI 1)]) dX8_ringText_21 fw_X8_isThrown_ fl_X8_105 fm_X8_isThrown_ fe_X8_isThrown_ h19 (by decide) rfl rfl rfl (c_X8_isThrown_ hs (d := d - 1) (Nat.le_trans (by decide) hdm) (w := w) (n := n) (mv := mv) (rw := rw) (nx := nx) (b := b) (bt := bt) (kn := kn) (en := en) (dn := dn) (rf := rf) (kk := kk) (th := th) ⟨h19, h20, h21, h22, hbb, hbl, hb3⟩ hn1 hn2 gm gr gx 1 (by first | assumption | omega) (kc := 0) (ks := 0)) hdp (st := []) (Nat.le_of_ble_eq_true rfl) rfl (kr_I fun v4 w4 hv4 hw4 => ?_) kx_I
      obtain ⟨hR4, hFc4⟩ := hw4
      obtain ⟨h19_4, h20_4, h21_4, h22_4, hbb_4, hbl_4, hb3_4⟩ := hR4
      have hF4 := hF.tr hFc4
      subst hv4
      show J X mX8_ringText d kc ks 24 [some (.ref 19), some (.int (nI q1)), some (.int c), none, none] [.int (nI 1)] w4 _
      refine J_if_eqN (pc := 24) (tgt := 30) dX8_ringText_24 (by decide) (by decide) (fun h => absurd h (by decide)) (fun _ => ?_)
      refine J_ldcS (pc := 27) (a := 5) (tx := "") dX8_ringText_27 List.mem_cons_self ?_
      exact J_aret (pc := 29) dX8_ringText_29 rfl rfl rfl ⟨nI (tW 1 0), ⟨h19_4, h20_4, h21_4, h22_4, hbb_4, hbl_4, hb3_4⟩, hF4⟩
    · refine J_if_neN (pc := 13) (tgt := 20) dX8_ringText_13 (by decide) (by decide) (fun _ => ?_) (fun h => absurd h (by decide))
      refine J_iconst (pc := 20) (v := nI 0) dX8_ringText_20 (by decide) ?_
      refine J_callV0 (pc := 21) (as := [.int (nI 0)]) dX8_ringText_21 fw_X8_isThrown_ fl_X8_105 fm_X8_isThrown_ fe_X8_isThrown_ h19 (by decide) rfl rfl rfl (c_X8_isThrown_ hs (d := d - 1) (Nat.le_trans (by decide) hdm) (w := w) (n := n) (mv := mv) (rw := rw) (nx := nx) (b := b) (bt := bt) (kn := kn) (en := en) (dn := dn) (rf := rf) (kk := kk) (th := th) ⟨h19, h20, h21, h22, hbb, hbl, hb3⟩ hn1 hn2 gm gr gx 0 (by first | assumption | omega) (kc := 0) (ks := 0)) hdp (st := []) (Nat.le_of_ble_eq_true rfl) rfl (kr_I fun v5 w5 hv5 hw5 => ?_) kx_I
      obtain ⟨hR5, hFc5⟩ := hw5
      obtain ⟨h19_5, h20_5, h21_5, h22_5, hbb_5, hbl_5, hb3_5⟩ := hR5
      have hF5 := hF.tr hFc5
      subst hv5
      show J X mX8_ringText d kc ks 24 [some (.ref 19), some (.int (nI q1)), some (.int (nI q3)), none, none] [.int (nI 0)] w5 _
      refine J_if_eqN (pc := 24) (tgt := 30) dX8_ringText_24 (by decide) (by decide) (fun _ => ?_) (fun h => absurd h (by decide))
      have q196 := gl h19_5
      have q206 := gl h20_5
      have q216 := gl h21_5
      have q226 := gl h22_5
      have qb6 := gl hbb_5
      have qF6 := hF5.1
      refine J_newO (pc := 30) (fs := [.null, .int (nI 0), .int (nI 0), .int (nI 0)]) dX8_ringText_30 kC1 fc_X8_146 fi_J4 fz_J4 df_J4 (by omega) (by omega) (fun a30 w6 ha6 hln6 hc6 hne6 => ?_)
      have h19_6 := (hne6 19 (by omega)).trans h19_5
      have h20_6 := (hne6 20 (by omega)).trans h20_5
      have h21_6 := (hne6 21 (by omega)).trans h21_5
      have h22_6 := (hne6 22 (by omega)).trans h22_5
      have hb_6 := (hne6 _ (by omega)).trans hbb_5
      have hF6 := hF5.pu ha6 hln6 hne6
      have qa6 : 23 ≤ a30 := by omega
      have qb6 : a30 ≠ b := by omega
      have qw6 : w.length ≤ a30 := by omega
      refine J_dup (pc := 33) dX8_ringText_33 rfl ?_
      refine J_callI (pc := 34) (as := []) dX8_ringText_34 fw_J4_init_da8c8 fl_X8_148 fm_J4_init_da8c8 rfl rfl rfl (c_J4_init_da8c8 hs (d := d - 1) (by omega) (w := w6) a30 hc6 (kc := 1) (ks := 16) (Nat.le_refl _) (Nat.le_refl _)) (by omega) (by omega) (by omega) (st := [.ref a30]) (Nat.le_of_ble_eq_true rfl) rfl (kr_V fun w7 hw7 => ?_) kx_V
      obtain ⟨v7', ys7, hB7, hFc7, hvv7⟩ := hw7
      have hgl7 := hFc7.1
      have hbl7 := hB7.2.2.2.2.1
      have h19_7 := (hFc7.2 19 (by omega) (by omega) (gl h19_6)).trans h19_6
      have h20_7 := (hFc7.2 20 (by omega) (by omega) (gl h20_6)).trans h20_6
      have h21_7 := (hFc7.2 21 (by omega) (by omega) (gl h21_6)).trans h21_6
      have h22_7 := (hFc7.2 22 (by omega) (by omega) (gl h22_6)).trans h22_6
      have hbb_7 := (hFc7.2 b (by omega) (by omega) (gl hb_6)).trans hb_6
      have hF7 := hF6.sb hFc7 (by omega) (by omega)
      refine J_astore_n (pc := 37) dX8_ringText_37 rfl (by decide) rfl rfl ?_
      show J X mX8_ringText d (kc - 1 - 1) (ks - 4 - 16) 38 [some (.ref 19), some (.int (nI q1)), some (.int (nI q3)), some (.ref a30), none] [] w7 _
      obtain ⟨K, hK1, hK2, hK3, hK4⟩ := it_ret (hy0 q1 (by omega)) (p := q3) (by omega)
      refine J_aload_n (pc := 38) dX8_ringText_38 rfl rfl rfl ?_
      refine J_iload_n (pc := 39) dX8_ringText_39 rfl rfl ?_
      have hgf9 := gL_d (0 + dgs q3) ys7.length
      have hgf10 := dgs_le q3
      have hgf11 := dgs_1 (x := q3) (by omega)
      have hB18 := hB7.2.2.2.1
      have hB28 := hB7.2.2.2.2.1
      have hB38 := hB7.2.2.2.2.2
      refine J_callV (pc := 40) (as := [.int (nI q3)]) dX8_ringText_40 fw_J4_append_bf812 fl_X8_155 fm_J4_append_bf812 fe_J4_append_bf812 hB7.1 (by decide) rfl rfl rfl (c_J4_append_bf812 hs (d := d - 1) (by omega) hXO (a := a30) (v := v7') (c := 0) (bs := ys7) (w := w7) hB7 q3 (by omega) (by omega) (kc := ((gL (0 + dgs q3) ys7.length - ys7.length) / 18)) (ks := (2 * (gL (0 + dgs q3) ys7.length - ys7.length))) (Nat.le_refl _) (Nat.le_refl _)) (by omega) (by omega) (by omega) (st := []) (Nat.le_of_ble_eq_true rfl) rfl (kr_A fun r8 w8 hw8 => ?_) kx_A
      obtain ⟨hra8, v8', ys8, hB8, hFc8, hvv8, hp8⟩ := hw8
      obtain rfl := hra8.symm
      have hgl8 := hFc8.1
      have hB48 := hB8.2.2.2.1
      have hB58 := hB8.2.2.2.2.2
      have hB68 := hB8.2.2.2.2.1
      have h19_8 := (hFc8.2 19 (by omega) (by omega) (gl h19_7)).trans h19_7
      have h20_8 := (hFc8.2 20 (by omega) (by omega) (gl h20_7)).trans h20_7
      have h21_8 := (hFc8.2 21 (by omega) (by omega) (gl h21_7)).trans h21_7
      have h22_8 := (hFc8.2 22 (by omega) (by omega) (gl h22_7)).trans h22_7
      have hbb_8 := (hFc8.2 b (by omega) (by omega) (gl hbb_7)).trans hbb_7
      have hF8 := hF7.sb hFc8 (by omega) (by omega)
      refine J_pop (pc := 43) dX8_ringText_43 rfl ?_
      refine J_aload_n (pc := 44) dX8_ringText_44 rfl rfl rfl ?_
      refine J_iload_n (pc := 45) dX8_ringText_45 rfl rfl ?_
      refine J_iload_n (pc := 46) dX8_ringText_46 rfl rfl ?_
      refine J_callV0 (pc := 47) (as := [.int (nI q1), .int (nI q3)]) dX8_ringText_47 fw_X8_at fl_X8_82 fm_X8_at fe_X8_at h19_8 (by decide) rfl rfl rfl (c_X8_at hs (d := d - 1) (Nat.le_trans (by decide) hdm) (w := w8) (n := n) (mv := mv) (rw := rw) (nx := nx) (b := b) (bt := bt) (kn := kn) (en := en) (dn := dn) (rf := rf) (kk := kk) (th := nI (tW 0 0)) ⟨h19_8, h20_8, h21_8, h22_8, hbb_8, hbl_5, hb3_5⟩ hn1 hn2 gm gr gx q1 q3 (by first | assumption | omega) (by first | assumption | omega) (kc := 0) (ks := 0)) hdp (st := []) (Nat.le_of_ble_eq_true rfl) rfl (kr_P fun v12 hv12 => ?_) kx_I
      subst hv12
      have hq13 := gm (q1 * 7 + q3)
      refine J_istore (pc := 50) dX8_ringText_50 (by decide) rfl ?_
      show J X mX8_ringText d (kc - 1 - 1 - ((gL (0 + dgs q3) ys7.length - ys7.length) / 18)) (ks - 4 - 16 - (2 * (gL (0 + dgs q3) ys7.length - ys7.length))) 52 [some (.ref 19), some (.int (nI q1)), some (.int (nI q3)), some (.ref a30), some (.int (nI (mv (q1 * 7 + q3))))] [] w8 _
      have lp52_14 : ∀ (fuel : Nat) (kc15 ks16 : Nat) (w17 : List jC) (v_52 k_52 : Nat) (b_52 : List Int32) (y4 : Nat) (g52 : Nat), (RM n mv rw nx b bt kn en dn rf kk (nI (tW 0 0)) w17) → (FR b b w w17) → (SBp a30 v_52 (nI 0) k_52 b_52 w17) → (w.length ≤ v_52) → ((620 - b_52.length) / 18 ≤ kc15) → (1240 - 2 * b_52.length ≤ ks16) → (1 ≤ g52) → (g52 ≤ K) → (y4 = it (fun p => mv (q1 * 7 + p)) g52 q3) → (y4 < n) → (k_52 ≤ 2 * g52) → (K - g52 < fuel) → J X mX8_ringText d kc15 ks16 52 [some (.ref 19), some (.int (nI q1)), some (.int (nI q3)), some (.ref a30), some (.int (nI y4))] [] w17 (pA (fun _ w' => ∃ (th' : Int32), RM n mv rw nx b bt kn en dn rf kk th' w' ∧ FR b b w w')) := by
        intro fuellp52_14
        induction fuellp52_14 with
        | zero => intros; omega
        | succ fuellp52_14 ihlp52_14 =>
          intro kc15 ks16 w17 v_52 k_52 b_52 y4 g52 hR18 hF19 hB20 hv21 hr22 hr23 hv52_0 hv52_1 hv52_2 hv52_3 hv52_4 hf24
          obtain ⟨h19_25, h20_25, h21_25, h22_25, hb_25, hbl_25, hb3_25⟩ := hR18
          refine J_iload (pc := 52) dX8_ringText_52 rfl ?_
          refine J_iload_n (pc := 54) dX8_ringText_54 rfl rfl ?_
          refine J_icmp_eqN (pc := 55) (tgt := 82) dX8_ringText_55 (by decide) (by omega) (by omega) (fun ht26 => ?_) (fun hf27 => ?_)
          · refine J_aload_n (pc := 82) dX8_ringText_82 rfl rfl rfl ?_
            have hB128 := hB20.2.2.2.1
            have hB328 := hB20.2.2.2.2.2
            refine J_callV (pc := 83) (as := []) dX8_ringText_83 fw_J4_toString_0e30d fl_X8_158 fm_J4_toString_0e30d fe_J4_toString_0e30d hB20.1 (by decide) rfl rfl rfl (c_J4_toString_0e30d hs (d := d - 1) (by omega) (a := a30) (v := v_52) (c := k_52) (bs := b_52) (w := w17) hB20 (kc := 2) (ks := k_52 + 4) (Nat.le_refl _) (Nat.le_refl _)) (by omega) (by omega) (by omega) (st := []) (Nat.le_of_ble_eq_true rfl) rfl (kr_A fun r28 w28 hw28 => ?_) kx_A
            obtain ⟨hra28, hln28, hne28, vz28, zs28, hco28, hcn28, hyl28⟩ := hw28
            have h19_28 := (hne28 19 (gl h19_25)).trans h19_25
            have h20_28 := (hne28 20 (gl h20_25)).trans h20_25
            have h21_28 := (hne28 21 (gl h21_25)).trans h21_25
            have h22_28 := (hne28 22 (gl h22_25)).trans h22_25
            have hbb_28 := (hne28 b (gl hb_25)).trans hb_25
            have hF28 := hF19.gr hln28 hne28
            exact J_aret (pc := 86) dX8_ringText_86 rfl rfl rfl ⟨nI (tW 0 0), ⟨h19_28, h20_28, h21_28, h22_28, hbb_28, hbl_25, hb3_25⟩, hF28⟩
          · have h58 : g52 ≠ K := fun e => absurd (show y4 = q3 by rw [hv52_2, e]; exact hK3) (by assumption)
            refine J_aload_n (pc := 58) dX8_ringText_58 rfl rfl rfl ?_
            refine J_ldcS (pc := 59) (a := 6) (tx := " ") dX8_ringText_59 (List.mem_cons_of_mem _ List.mem_cons_self) ?_
            obtain ⟨os29, t29, z29, ho129, ho229, ho329, ho429⟩ := hXO.2.2.2
            have hgf31 := gL_d (k_52 + os29.length) b_52.length
            have hB130 := hB20.2.2.2.1
            have hB230 := hB20.2.2.2.2.1
            have hB330 := hB20.2.2.2.2.2
            refine J_callV (pc := 61) (as := [.retAddr 6]) dX8_ringText_61 fw_J4_append_15ec4 fl_X8_151 fm_J4_append_15ec4 fe_J4_append_15ec4 hB20.1 (by decide) rfl rfl rfl (c_J4_append_15ec4 hs (d := d - 1) (by omega) (a := a30) (v := v_52) (c := k_52) (bs := b_52) (w := w17) hB20 6 t29 z29 os29 ho129 ho229 ho429 (by omega) (by omega) (kc := ((gL (k_52 + os29.length) b_52.length - b_52.length) / 18)) (ks := (2 * (gL (k_52 + os29.length) b_52.length - b_52.length))) (Nat.le_refl _) (Nat.le_refl _)) (by omega) (by omega) (by omega) (st := []) (Nat.le_of_ble_eq_true rfl) rfl (kr_A fun r30 w30 hw30 => ?_) kx_A
            obtain ⟨hra30, v30', ys30, hB30, hFc30, hvv30, hp30⟩ := hw30
            obtain rfl := hra30.symm
            have hgl30 := hFc30.1
            have hB430 := hB30.2.2.2.1
            have hB530 := hB30.2.2.2.2.2
            have hB630 := hB30.2.2.2.2.1
            have h19_30 := (hFc30.2 19 (by omega) (by omega) (gl h19_25)).trans h19_25
            have h20_30 := (hFc30.2 20 (by omega) (by omega) (gl h20_25)).trans h20_25
            have h21_30 := (hFc30.2 21 (by omega) (by omega) (gl h21_25)).trans h21_25
            have h22_30 := (hFc30.2 22 (by omega) (by omega) (gl h22_25)).trans h22_25
            have hbb_30 := (hFc30.2 b (by omega) (by omega) (gl hb_25)).trans hb_25
            have hF30 := hF19.sb hFc30 (by omega) (by omega)
            refine J_iload (pc := 64) dX8_ringText_64 rfl ?_
            have hgf33 := gL_d ((k_52 + os29.length) + dgs y4) ys30.length
            have hgf34 := dgs_le y4
            have hgf35 := dgs_1 (x := y4) (by omega)
            have hB132 := hB30.2.2.2.1
            have hB232 := hB30.2.2.2.2.1
            have hB332 := hB30.2.2.2.2.2
            refine J_callV (pc := 66) (as := [.int (nI y4)]) dX8_ringText_66 fw_J4_append_bf812 fl_X8_155 fm_J4_append_bf812 fe_J4_append_bf812 hB30.1 (by decide) rfl rfl rfl (c_J4_append_bf812 hs (d := d - 1) (by omega) hXO (a := a30) (v := v30') (c := k_52 + os29.length) (bs := ys30) (w := w30) hB30 y4 (by omega) (by omega) (kc := ((gL ((k_52 + os29.length) + dgs y4) ys30.length - ys30.length) / 18)) (ks := (2 * (gL ((k_52 + os29.length) + dgs y4) ys30.length - ys30.length))) (Nat.le_refl _) (Nat.le_refl _)) (by omega) (by omega) (by omega) (st := []) (Nat.le_of_ble_eq_true rfl) rfl (kr_A fun r32 w32 hw32 => ?_) kx_A
            obtain ⟨hra32, v32', ys32, hB32, hFc32, hvv32, hp32⟩ := hw32
            obtain rfl := hra32.symm
            have hgl32 := hFc32.1
            have hB432 := hB32.2.2.2.1
            have hB532 := hB32.2.2.2.2.2
            have hB632 := hB32.2.2.2.2.1
            have h19_32 := (hFc32.2 19 (by omega) (by omega) (gl h19_30)).trans h19_30
            have h20_32 := (hFc32.2 20 (by omega) (by omega) (gl h20_30)).trans h20_30
            have h21_32 := (hFc32.2 21 (by omega) (by omega) (gl h21_30)).trans h21_30
            have h22_32 := (hFc32.2 22 (by omega) (by omega) (gl h22_30)).trans h22_30
            have hbb_32 := (hFc32.2 b (by omega) (by omega) (gl hbb_30)).trans hbb_30
            have hF32 := hF30.sb hFc32 (by omega) (by omega)
            refine J_pop (pc := 69) dX8_ringText_69 rfl ?_
            refine J_aload_n (pc := 70) dX8_ringText_70 rfl rfl rfl ?_
            refine J_iload_n (pc := 71) dX8_ringText_71 rfl rfl ?_
            refine J_iload (pc := 72) dX8_ringText_72 rfl ?_
            refine J_callV0 (pc := 74) (as := [.int (nI q1), .int (nI y4)]) dX8_ringText_74 fw_X8_at fl_X8_82 fm_X8_at fe_X8_at h19_32 (by decide) rfl rfl rfl (c_X8_at hs (d := d - 1) (Nat.le_trans (by decide) hdm) (w := w32) (n := n) (mv := mv) (rw := rw) (nx := nx) (b := b) (bt := bt) (kn := kn) (en := en) (dn := dn) (rf := rf) (kk := kk) (th := nI (tW 0 0)) ⟨h19_32, h20_32, h21_32, h22_32, hbb_32, hbl_25, hb3_25⟩ hn1 hn2 gm gr gx q1 y4 (by first | assumption | omega) (by first | assumption | omega) (kc := 0) (ks := 0)) hdp (st := []) (Nat.le_of_ble_eq_true rfl) rfl (kr_P fun v36 hv36 => ?_) kx_I
            subst hv36
            have hq37 := gm (q1 * 7 + y4)
            refine J_istore (pc := 77) dX8_ringText_77 (by decide) rfl ?_
            show J X mX8_ringText d (kc15 - ((gL (k_52 + os29.length) b_52.length - b_52.length) / 18) - ((gL ((k_52 + os29.length) + dgs y4) ys30.length - ys30.length) / 18)) (ks16 - (2 * (gL (k_52 + os29.length) b_52.length - b_52.length)) - (2 * (gL ((k_52 + os29.length) + dgs y4) ys30.length - ys30.length))) 79 [some (.ref 19), some (.int (nI q1)), some (.int (nI q3)), some (.ref a30), some (.int (nI (mv (q1 * 7 + y4))))] [] w32 _
            refine J_goto (pc := 79) (tgt := 52) dX8_ringText_79 (by decide) ?_
            exact J_sub (L' := [some (.ref 19), some (.int (nI q1)), some (.int (nI q3)), some (.ref a30), some (.int (nI (mv (q1 * 7 + y4))))]) ⟨rfl, ⟨rfl, ⟨rfl, ⟨rfl, ⟨rfl, trivial⟩⟩⟩⟩⟩ (ihlp52_14 _ _ w32 v32' (k_52 + os29.length + dgs y4) ys32 (mv (q1 * 7 + y4)) (g52 + 1) ⟨h19_32, h20_32, h21_32, h22_32, hbb_32, hbl_25, hb3_25⟩ hF32 hB32 (by omega) (by omega) (by omega) (by first | assumption | omega) (by first | assumption | omega) (by rw [hv52_2]; rfl) (by exact (hy0 q1 (by omega)).1 y4 hv52_3) (by first | assumption | omega) (by omega))
      exact J_sub (L' := [some (.ref 19), some (.int (nI q1)), some (.int (nI q3)), some (.ref a30), some (.int (nI (mv (q1 * 7 + q3))))]) ⟨rfl, ⟨rfl, ⟨rfl, ⟨rfl, ⟨rfl, trivial⟩⟩⟩⟩⟩ (lp52_14 _ _ _ w8 v8' (0 + dgs q3) ys8 (mv (q1 * 7 + q3)) 1 ⟨h19_8, h20_8, h21_8, h22_8, hbb_8, hbl_5, hb3_5⟩ hF8 hB8 (by omega) (by omega) (by omega) (by first | assumption | omega) (by first | assumption | omega) (by rfl) (by exact (hy0 q1 (by omega)).1 q3 (by omega)) (by first | assumption | omega) (Nat.lt_succ_self _))
set_option maxRecDepth 100000 in
set_option maxHeartbeats 40000000 in
theorem c_X8_list {X : jX} (hs : X.1.stackTraces = false) {d : Nat} (hd : 14 ≤ d) (hXO : XO X) {n : Nat} {mv rw nx : Nat → Nat} {b : Nat} {bt : List Int32} {kn en dn rf kk th : Int32} {w : List jC} (hR : RM n mv rw nx b bt kn en dn rf kk th w) (hn1 : 2 ≤ n) (hn2 : n ≤ 7) (gm : ∀ i, mv i < 7) (gr : ∀ i, rw i < 7) (gx : ∀ i, nx i < 7) (s : Int32) (c : Int32) (hy0 : PM n mv) (hy1 : KB n kn bt) {kc ks : Nat} (hkc : 55 ≤ kc) (hks : 3600 ≤ ks) : jMet X mX8_list d kc ks [.ref 19, .int s, .int c] w (pA (fun _ w' => ∃ (rw' nx' : Nat → Nat) (b' : Nat) (bt' : List Int32) (kn' en' th' : Int32), RM n mv rw' nx' b' bt' kn' en' dn rf kk th' w' ∧ FR b b' w w' ∧ (∀ i, rw' i < 7) ∧ (∀ i, nx' i < 7) ∧ KB n kn' bt')) := by
  refine jMet_of hs (by decide +kernel) (Nat.le_of_ble_eq_true rfl) (L := [some (.ref 19), some (.int s), some (.int c), none, none, none, none]) rfl ?_
  have hdm : 13 ≤ d - 1 := by omega
  have hdp : d - 1 + 1 ≤ d := by omega
  have hfc := fc_7 hn2
  have hfp := fc_pos n
  obtain ⟨h19, h20, h21, h22, hbb, hbl, hb3⟩ := hR
  have hF : FR b b w w := FR.rf
  refine J_aload_n (pc := 0) dX8_list_0 rfl rfl rfl ?_
  refine J_iload_n (pc := 1) dX8_list_1 rfl rfl ?_
  refine J_callS0 (pc := 2) (as := [.int s]) dX8_list_2 fw_X8_isSet fl_X8_134 fs_X8_isSet rfl (c_X8_isSet hs (d := d - 1) (Nat.le_trans (by decide) hdm) (w := w) s (kc := 0) (ks := 0)) hdp (st := [.ref 19]) (Nat.le_of_ble_eq_true rfl) rfl (kr_P fun v1 hv1 => ?_) kx_I
  rcases hv1 with ⟨rfl, hk1_0⟩ | ⟨q1, rfl, hk1_0, rfl⟩
  · refine J_if_eqN (pc := 5) (tgt := 12) dX8_list_5 (by decide) (by decide) (fun _ => ?_) (fun h => absurd h (by decide))
    refine J_iconst (pc := 12) (v := nI 1) dX8_list_12 (by decide) ?_
    refine J_goto (pc := 13) (tgt := 17) dX8_list_13 (by decide) ?_
    refine J_callV0 (pc := 17) (as := [.int (nI 1)]) dX8_list_17 fw_X8_isThrown_ fl_X8_105 fm_X8_isThrown_ fe_X8_isThrown_ h19 (by decide) rfl rfl rfl (c_X8_isThrown_ hs (d := d - 1) (Nat.le_trans (by decide) hdm) (w := w) (n := n) (mv := mv) (rw := rw) (nx := nx) (b := b) (bt := bt) (kn := kn) (en := en) (dn := dn) (rf := rf) (kk := kk) (th := th) ⟨h19, h20, h21, h22, hbb, hbl, hb3⟩ hn1 hn2 gm gr gx 1 (by first | assumption | omega) (kc := 0) (ks := 0)) hdp (st := []) (Nat.le_of_ble_eq_true rfl) rfl (kr_I fun v2 w2 hv2 hw2 => ?_) kx_I
    obtain ⟨hR2, hFc2⟩ := hw2
    obtain ⟨h19_2, h20_2, h21_2, h22_2, hbb_2, hbl_2, hb3_2⟩ := hR2
    have hF2 := hF.tr hFc2
    subst hv2
    show J X mX8_list d kc ks 20 [some (.ref 19), some (.int s), some (.int c), none, none, none, none] [.int (nI 1)] w2 _
    refine J_if_eqN (pc := 20) (tgt := 26) dX8_list_20 (by decide) (by decide) (fun h => absurd h (by decide)) (fun _ => ?_)
    refine J_ldcS (pc := 23) (a := 5) (tx := "") dX8_list_23 List.mem_cons_self ?_
    exact J_aret (pc := 25) dX8_list_25 rfl rfl rfl ⟨rw, nx, b, bt, kn, en, nI (tW 1 0), ⟨h19_2, h20_2, h21_2, h22_2, hbb_2, hbl_2, hb3_2⟩, hF2, gr, gx, (by first | assumption | exact Or.inr (by assumption))⟩
  · refine J_if_eqN (pc := 5) (tgt := 12) dX8_list_5 (by decide) (by decide) (fun h => absurd h (by decide)) (fun _ => ?_)
    refine J_iload_n (pc := 8) dX8_list_8 rfl rfl ?_
    refine J_if_ge (pc := 9) (tgt := 16) dX8_list_9 (by decide) (fun ht3 => ?_) (fun hf4 => ?_)
    · refine J_iconst (pc := 16) (v := nI 0) dX8_list_16 (by decide) ?_
      refine J_callV0 (pc := 17) (as := [.int (nI 0)]) dX8_list_17 fw_X8_isThrown_ fl_X8_105 fm_X8_isThrown_ fe_X8_isThrown_ h19 (by decide) rfl rfl rfl (c_X8_isThrown_ hs (d := d - 1) (Nat.le_trans (by decide) hdm) (w := w) (n := n) (mv := mv) (rw := rw) (nx := nx) (b := b) (bt := bt) (kn := kn) (en := en) (dn := dn) (rf := rf) (kk := kk) (th := th) ⟨h19, h20, h21, h22, hbb, hbl, hb3⟩ hn1 hn2 gm gr gx 0 (by first | assumption | omega) (kc := 0) (ks := 0)) hdp (st := []) (Nat.le_of_ble_eq_true rfl) rfl (kr_I fun v5 w5 hv5 hw5 => ?_) kx_I
      obtain ⟨hR5, hFc5⟩ := hw5
      obtain ⟨h19_5, h20_5, h21_5, h22_5, hbb_5, hbl_5, hb3_5⟩ := hR5
      have hF5 := hF.tr hFc5
      subst hv5
      show J X mX8_list d kc ks 20 [some (.ref 19), some (.int (nI q1)), some (.int c), none, none, none, none] [.int (nI 0)] w5 _
      refine J_if_eqN (pc := 20) (tgt := 26) dX8_list_20 (by decide) (by decide) (fun _ => ?_) (fun h => absurd h (by decide))
      refine J_aload_n (pc := 26) dX8_list_26 rfl rfl rfl ?_
      refine J_iload_n (pc := 27) dX8_list_27 rfl rfl ?_
      refine J_callV (pc := 28) (as := [.int (nI q1)]) dX8_list_28 fw_X8_group fl_X8_99 fm_X8_group fe_X8_group h19_5 (by decide) rfl rfl rfl (c_X8_group hs (d := d - 1) (Nat.le_trans (by decide) hdm) (w := w5) (n := n) (mv := mv) (rw := rw) (nx := nx) (b := b) (bt := bt) (kn := kn) (en := en) (dn := dn) (rf := rf) (kk := kk) (th := nI (tW 0 0)) ⟨h19_5, h20_5, h21_5, h22_5, hbb_5, hbl_5, hb3_5⟩ hn1 hn2 gm gr gx q1 (by first | assumption | omega) (by first | assumption | omega) (by first | assumption | omega) (kc := 13) (ks := 2054) (Nat.le_refl _) (Nat.le_refl _)) hdp (by omega) (by omega) (st := []) (Nat.le_of_ble_eq_true rfl) rfl (kr_V fun w6 hw6 => ?_) kx_V
      obtain ⟨rw6, nx6, b6, bt6, kn6, en6, hR6, hFc6, hgrw6, hgnx6, hp6_0, hp6_1⟩ := hw6
      obtain ⟨h19_6, h20_6, h21_6, h22_6, hbb_6, hbl_6, hb3_6⟩ := hR6
      have qd6 := hFc6.2.1
      have hF6 := hF5.tr hFc6
      have q197 := gl h19_6
      have q207 := gl h20_6
      have q217 := gl h21_6
      have q227 := gl h22_6
      have qb7 := gl hbb_6
      have qF7 := hF6.1
      refine J_newO (pc := 31) (fs := [.null, .int (nI 0), .int (nI 0), .int (nI 0)]) dX8_list_31 kC1 fc_X8_146 fi_J4 fz_J4 df_J4 (by omega) (by omega) (fun a31 w7 ha7 hln7 hc7 hne7 => ?_)
      have h19_7 := (hne7 19 (by omega)).trans h19_6
      have h20_7 := (hne7 20 (by omega)).trans h20_6
      have h21_7 := (hne7 21 (by omega)).trans h21_6
      have h22_7 := (hne7 22 (by omega)).trans h22_6
      have hb_7 := (hne7 _ (by omega)).trans hbb_6
      have hF7 := hF6.pu ha7 hln7 hne7
      have qa7 : 23 ≤ a31 := by omega
      have qb7 : a31 ≠ b6 := by omega
      have qw7 : w.length ≤ a31 := by omega
      refine J_dup (pc := 34) dX8_list_34 rfl ?_
      refine J_callI (pc := 35) (as := []) dX8_list_35 fw_J4_init_da8c8 fl_X8_148 fm_J4_init_da8c8 rfl rfl rfl (c_J4_init_da8c8 hs (d := d - 1) (by omega) (w := w7) a31 hc7 (kc := 1) (ks := 16) (Nat.le_refl _) (Nat.le_refl _)) (by omega) (by omega) (by omega) (st := [.ref a31]) (Nat.le_of_ble_eq_true rfl) rfl (kr_V fun w8 hw8 => ?_) kx_V
      obtain ⟨v8', ys8, hB8, hFc8, hvv8⟩ := hw8
      have hgl8 := hFc8.1
      have hbl8 := hB8.2.2.2.2.1
      have h19_8 := (hFc8.2 19 (by omega) (by omega) (gl h19_7)).trans h19_7
      have h20_8 := (hFc8.2 20 (by omega) (by omega) (gl h20_7)).trans h20_7
      have h21_8 := (hFc8.2 21 (by omega) (by omega) (gl h21_7)).trans h21_7
      have h22_8 := (hFc8.2 22 (by omega) (by omega) (gl h22_7)).trans h22_7
      have hbb_8 := (hFc8.2 b6 (by omega) (by omega) (gl hb_7)).trans hb_7
      have hF8 := hF7.sb hFc8 (by omega) (by omega)
      refine J_astore_n (pc := 38) dX8_list_38 rfl (by decide) rfl rfl ?_
      show J X mX8_list d (kc - 13 - 1 - 1) (ks - 2054 - 4 - 16) 39 [some (.ref 19), some (.int (nI q1)), some (.int c), some (.ref a31), none, none, none] [] w8 _
      refine J_iload_n (pc := 39) dX8_list_39 rfl rfl ?_
      refine J_istore (pc := 40) dX8_list_40 (by decide) rfl ?_
      show J X mX8_list d (kc - 13 - 1 - 1) (ks - 2054 - 4 - 16) 42 [some (.ref 19), some (.int (nI q1)), some (.int c), some (.ref a31), some (.int c), none, none] [] w8 _
      refine J_iconst (pc := 42) (v := nI 0) dX8_list_42 (by decide) ?_
      refine J_istore (pc := 43) dX8_list_43 (by decide) rfl ?_
      show J X mX8_list d (kc - 13 - 1 - 1) (ks - 2054 - 4 - 16) 45 [some (.ref 19), some (.int (nI q1)), some (.int c), some (.ref a31), some (.int c), some (.int (nI 0)), none] [] w8 _
      refine J_aload_n (pc := 45) dX8_list_45 rfl rfl rfl ?_
      refine J_iconst (pc := 46) (v := nI 0) dX8_list_46 (by decide) ?_
      refine J_callV0 (pc := 47) (as := [.int (nI 0)]) dX8_list_47 fw_X8_from fl_X8_137 fm_X8_from fe_X8_from h19_8 (by decide) rfl rfl rfl (c_X8_from hs (d := d - 1) (Nat.le_trans (by decide) hdm) (w := w8) (n := n) (mv := mv) (rw := rw6) (nx := nx6) (b := b6) (bt := bt6) (kn := kn6) (en := en6) (dn := dn) (rf := rf) (kk := kk) (th := nI (tW 0 0)) ⟨h19_8, h20_8, h21_8, h22_8, hbb_8, hbl_6, hb3_6⟩ hn1 hn2 gm hgrw6 hgnx6 0 (by first | assumption | omega) (kc := 0) (ks := 0)) hdp (st := []) (Nat.le_of_ble_eq_true rfl) rfl (kr_P fun v9 hv9 => ?_) kx_I
      rcases hv9 with ⟨rfl, hk9_0⟩ | ⟨q9, rfl, hk9_0, hk9_1, hk9_2, hk9_3⟩
      · refine J_istore (pc := 50) dX8_list_50 (by decide) rfl ?_
        show J X mX8_list d (kc - 13 - 1 - 1) (ks - 2054 - 4 - 16) 52 [some (.ref 19), some (.int (nI q1)), some (.int c), some (.ref a31), some (.int c), some (.int (nI 0)), some (.int (-1))] [] w8 _
        have lp52_10 : ∀ (fuel : Nat) (kc11 ks12 : Nat) (w13 : List jC) (v_52 k_52 : Nat) (b_52 : List Int32) (z4 : Int32) (c5 : Nat) (c6 : Nat), (RM n mv rw6 nx6 b6 bt6 kn6 en6 dn rf kk (nI (tW 0 0)) w13) → (FR b b6 w w13) → (SBp a31 v_52 (nI 0) k_52 b_52 w13) → (w.length ≤ v_52) → ((620 - b_52.length) / 18 ≤ kc11) → (1240 - 2 * b_52.length ≤ ks12) → (c6 ≤ fc n) → (c5 ≤ 20) → (k_52 ≤ 5 * c5) → (mu (fc n) c6 < fuel) → J X mX8_list d kc11 ks12 52 [some (.ref 19), some (.int (nI q1)), some (.int c), some (.ref a31), some (.int z4), some (.int (nI c5)), some (.int (nI c6 + Int32.ofInt (-1)))] [] w13 (pA (fun _ w' => ∃ (rw' nx' : Nat → Nat) (b' : Nat) (bt' : List Int32) (kn' en' th' : Int32), RM n mv rw' nx' b' bt' kn' en' dn rf kk th' w' ∧ FR b b' w w' ∧ (∀ i, rw' i < 7) ∧ (∀ i, nx' i < 7) ∧ KB n kn' bt')) := by
          intro fuellp52_10
          induction fuellp52_10 with
          | zero => intros; omega
          | succ fuellp52_10 ihlp52_10 =>
            intro kc11 ks12 w13 v_52 k_52 b_52 z4 c5 c6 hR14 hF15 hB16 hv17 hr18 hr19 hv52_0 hv52_1 hv52_2 hf20
            obtain ⟨h19_21, h20_21, h21_21, h22_21, hb_21, hbl_21, hb3_21⟩ := hR14
            refine J_iload (pc := 52) dX8_list_52 rfl ?_
            refine J_if_ltM (pc := 54) (tgt := 113) dX8_list_54 (by decide) (by omega) (fun ht22 => ?_) (fun hf23 => ?_)
            · refine J_aload_n (pc := 113) dX8_list_113 rfl rfl rfl ?_
              have hB124 := hB16.2.2.2.1
              have hB324 := hB16.2.2.2.2.2
              refine J_callV (pc := 114) (as := []) dX8_list_114 fw_J4_toString_0e30d fl_X8_158 fm_J4_toString_0e30d fe_J4_toString_0e30d hB16.1 (by decide) rfl rfl rfl (c_J4_toString_0e30d hs (d := d - 1) (by omega) (a := a31) (v := v_52) (c := k_52) (bs := b_52) (w := w13) hB16 (kc := 2) (ks := k_52 + 4) (Nat.le_refl _) (Nat.le_refl _)) (by omega) (by omega) (by omega) (st := []) (Nat.le_of_ble_eq_true rfl) rfl (kr_A fun r24 w24 hw24 => ?_) kx_A
              obtain ⟨hra24, hln24, hne24, vz24, zs24, hco24, hcn24, hyl24⟩ := hw24
              have h19_24 := (hne24 19 (gl h19_21)).trans h19_21
              have h20_24 := (hne24 20 (gl h20_21)).trans h20_21
              have h21_24 := (hne24 21 (gl h21_21)).trans h21_21
              have h22_24 := (hne24 22 (gl h22_21)).trans h22_21
              have hbb_24 := (hne24 b6 (gl hb_21)).trans hb_21
              have hF24 := hF15.gr hln24 hne24
              exact J_aret (pc := 117) dX8_list_117 rfl rfl rfl ⟨rw6, nx6, b6, bt6, kn6, en6, nI (tW 0 0), ⟨h19_24, h20_24, h21_24, h22_24, hbb_24, hbl_21, hb3_21⟩, hF24, hgrw6, hgnx6, (by first | assumption | exact Or.inr (by assumption))⟩
            · rw [nI_m1 hf23]
              refine J_iload (pc := 57) dX8_list_57 rfl ?_
              refine J_bipush (pc := 59) (v := nI 20) dX8_list_59 (by decide) ?_
              refine J_icmp_geN (pc := 61) (tgt := 113) dX8_list_61 (by decide) (by omega) (by omega) (fun ht25 => ?_) (fun hf26 => ?_)
              · refine J_aload_n (pc := 113) dX8_list_113 rfl rfl rfl ?_
                have hB127 := hB16.2.2.2.1
                have hB327 := hB16.2.2.2.2.2
                refine J_callV (pc := 114) (as := []) dX8_list_114 fw_J4_toString_0e30d fl_X8_158 fm_J4_toString_0e30d fe_J4_toString_0e30d hB16.1 (by decide) rfl rfl rfl (c_J4_toString_0e30d hs (d := d - 1) (by omega) (a := a31) (v := v_52) (c := k_52) (bs := b_52) (w := w13) hB16 (kc := 2) (ks := k_52 + 4) (Nat.le_refl _) (Nat.le_refl _)) (by omega) (by omega) (by omega) (st := []) (Nat.le_of_ble_eq_true rfl) rfl (kr_A fun r27 w27 hw27 => ?_) kx_A
                obtain ⟨hra27, hln27, hne27, vz27, zs27, hco27, hcn27, hyl27⟩ := hw27
                have h19_27 := (hne27 19 (gl h19_21)).trans h19_21
                have h20_27 := (hne27 20 (gl h20_21)).trans h20_21
                have h21_27 := (hne27 21 (gl h21_21)).trans h21_21
                have h22_27 := (hne27 22 (gl h22_21)).trans h22_21
                have hbb_27 := (hne27 b6 (gl hb_21)).trans hb_21
                have hF27 := hF15.gr hln27 hne27
                exact J_aret (pc := 117) dX8_list_117 rfl rfl rfl ⟨rw6, nx6, b6, bt6, kn6, en6, nI (tW 0 0), ⟨h19_27, h20_27, h21_27, h22_27, hbb_27, hbl_21, hb3_21⟩, hF27, hgrw6, hgnx6, (by first | assumption | exact Or.inr (by assumption))⟩
              · refine J_iinc (pc := 64) dX8_list_64 rfl rfl (by decide) rfl ?_
                generalize z4 + Int32.ofInt (-1) = x28
                show J X mX8_list d kc11 ks12 67 [some (.ref 19), some (.int (nI q1)), some (.int c), some (.ref a31), some (.int x28), some (.int (nI c5)), some (.int (nI (c6 - 1)))] [] w13 _
                refine J_iload (pc := 67) dX8_list_67 rfl ?_
                refine J_if_lt (pc := 69) (tgt := 75) dX8_list_69 (by decide) (fun ht29 => ?_) (fun hf30 => ?_)
                · refine J_aload_n (pc := 75) dX8_list_75 rfl rfl rfl ?_
                  refine J_iload (pc := 76) dX8_list_76 rfl ?_
                  refine J_if_neN (pc := 78) (tgt := 86) dX8_list_78 (by decide) (by omega) (fun ht31 => ?_) (fun hf32 => ?_)
                  · refine J_ldcS (pc := 86) (a := 6) (tx := " ") dX8_list_86 (List.mem_cons_of_mem _ List.mem_cons_self) ?_
                    obtain ⟨os33, t33, z33, ho133, ho233, ho333, ho433⟩ := hXO.2.2.2
                    have hgf35 := gL_d (k_52 + os33.length) b_52.length
                    have hB134 := hB16.2.2.2.1
                    have hB234 := hB16.2.2.2.2.1
                    have hB334 := hB16.2.2.2.2.2
                    refine J_callV (pc := 88) (as := [.retAddr 6]) dX8_list_88 fw_J4_append_15ec4 fl_X8_151 fm_J4_append_15ec4 fe_J4_append_15ec4 hB16.1 (by decide) rfl rfl rfl (c_J4_append_15ec4 hs (d := d - 1) (by omega) (a := a31) (v := v_52) (c := k_52) (bs := b_52) (w := w13) hB16 6 t33 z33 os33 ho133 ho233 ho433 (by omega) (by omega) (kc := ((gL (k_52 + os33.length) b_52.length - b_52.length) / 18)) (ks := (2 * (gL (k_52 + os33.length) b_52.length - b_52.length))) (Nat.le_refl _) (Nat.le_refl _)) (by omega) (by omega) (by omega) (st := []) (Nat.le_of_ble_eq_true rfl) rfl (kr_A fun r34 w34 hw34 => ?_) kx_A
                    obtain ⟨hra34, v34', ys34, hB34, hFc34, hvv34, hp34⟩ := hw34
                    obtain rfl := hra34.symm
                    have hgl34 := hFc34.1
                    have hB434 := hB34.2.2.2.1
                    have hB534 := hB34.2.2.2.2.2
                    have hB634 := hB34.2.2.2.2.1
                    have h19_34 := (hFc34.2 19 (by omega) (by omega) (gl h19_21)).trans h19_21
                    have h20_34 := (hFc34.2 20 (by omega) (by omega) (gl h20_21)).trans h20_21
                    have h21_34 := (hFc34.2 21 (by omega) (by omega) (gl h21_21)).trans h21_21
                    have h22_34 := (hFc34.2 22 (by omega) (by omega) (gl h22_21)).trans h22_21
                    have hbb_34 := (hFc34.2 b6 (by omega) (by omega) (gl hb_21)).trans hb_21
                    have hF34 := hF15.sb hFc34 (by omega) (by omega)
                    refine J_iload (pc := 91) dX8_list_91 rfl ?_
                    have hgf37 := gL_d ((k_52 + os33.length) + dgs (c6 - 1)) ys34.length
                    have hgf38 := dgs_le (c6 - 1)
                    have hB136 := hB34.2.2.2.1
                    have hB236 := hB34.2.2.2.2.1
                    have hB336 := hB34.2.2.2.2.2
                    refine J_callV (pc := 93) (as := [.int (nI (c6 - 1))]) dX8_list_93 fw_J4_append_bf812 fl_X8_155 fm_J4_append_bf812 fe_J4_append_bf812 hB34.1 (by decide) rfl rfl rfl (c_J4_append_bf812 hs (d := d - 1) (by omega) hXO (a := a31) (v := v34') (c := k_52 + os33.length) (bs := ys34) (w := w34) hB34 (c6 - 1) (by omega) (by omega) (kc := ((gL ((k_52 + os33.length) + dgs (c6 - 1)) ys34.length - ys34.length) / 18)) (ks := (2 * (gL ((k_52 + os33.length) + dgs (c6 - 1)) ys34.length - ys34.length))) (Nat.le_refl _) (Nat.le_refl _)) (by omega) (by omega) (by omega) (st := []) (Nat.le_of_ble_eq_true rfl) rfl (kr_A fun r36 w36 hw36 => ?_) kx_A
                    obtain ⟨hra36, v36', ys36, hB36, hFc36, hvv36, hp36⟩ := hw36
                    obtain rfl := hra36.symm
                    have hgl36 := hFc36.1
                    have hB436 := hB36.2.2.2.1
                    have hB536 := hB36.2.2.2.2.2
                    have hB636 := hB36.2.2.2.2.1
                    have h19_36 := (hFc36.2 19 (by omega) (by omega) (gl h19_34)).trans h19_34
                    have h20_36 := (hFc36.2 20 (by omega) (by omega) (gl h20_34)).trans h20_34
                    have h21_36 := (hFc36.2 21 (by omega) (by omega) (gl h21_34)).trans h21_34
                    have h22_36 := (hFc36.2 22 (by omega) (by omega) (gl h22_34)).trans h22_34
                    have hbb_36 := (hFc36.2 b6 (by omega) (by omega) (gl hbb_34)).trans hbb_34
                    have hF36 := hF34.sb hFc36 (by omega) (by omega)
                    refine J_pop (pc := 96) dX8_list_96 rfl ?_
                    refine J_iincN (pc := 97) (b := 1) dX8_list_97 rfl (by decide) (by decide) rfl ?_
                    show J X mX8_list d (kc11 - ((gL (k_52 + os33.length) b_52.length - b_52.length) / 18) - ((gL ((k_52 + os33.length) + dgs (c6 - 1)) ys34.length - ys34.length) / 18)) (ks12 - (2 * (gL (k_52 + os33.length) b_52.length - b_52.length)) - (2 * (gL ((k_52 + os33.length) + dgs (c6 - 1)) ys34.length - ys34.length))) 100 [some (.ref 19), some (.int (nI q1)), some (.int c), some (.ref a31), some (.int x28), some (.int (nI (c5 + 1))), some (.int (nI (c6 - 1)))] [] w36 _
                    refine J_aload_n (pc := 100) dX8_list_100 rfl rfl rfl ?_
                    refine J_iload (pc := 101) dX8_list_101 rfl ?_
                    refine J_iconst (pc := 103) (v := nI 1) dX8_list_103 (by decide) ?_
                    refine J_iaddN (pc := 104) dX8_list_104 ?_
                    refine J_callV0 (pc := 105) (as := [.int (nI ((c6 - 1) + 1))]) dX8_list_105 fw_X8_from fl_X8_137 fm_X8_from fe_X8_from h19_36 (by decide) rfl rfl rfl (c_X8_from hs (d := d - 1) (Nat.le_trans (by decide) hdm) (w := w36) (n := n) (mv := mv) (rw := rw6) (nx := nx6) (b := b6) (bt := bt6) (kn := kn6) (en := en6) (dn := dn) (rf := rf) (kk := kk) (th := nI (tW 0 0)) ⟨h19_36, h20_36, h21_36, h22_36, hbb_36, hbl_21, hb3_21⟩ hn1 hn2 gm hgrw6 hgnx6 ((c6 - 1) + 1) (by first | assumption | omega) (kc := 0) (ks := 0)) hdp (st := []) (Nat.le_of_ble_eq_true rfl) rfl (kr_P fun v39 hv39 => ?_) kx_I
                    rcases hv39 with ⟨rfl, hk39_0⟩ | ⟨q39, rfl, hk39_0, hk39_1, hk39_2, hk39_3⟩
                    · refine J_istore (pc := 108) dX8_list_108 (by decide) rfl ?_
                      show J X mX8_list d (kc11 - ((gL (k_52 + os33.length) b_52.length - b_52.length) / 18) - ((gL ((k_52 + os33.length) + dgs (c6 - 1)) ys34.length - ys34.length) / 18)) (ks12 - (2 * (gL (k_52 + os33.length) b_52.length - b_52.length)) - (2 * (gL ((k_52 + os33.length) + dgs (c6 - 1)) ys34.length - ys34.length))) 110 [some (.ref 19), some (.int (nI q1)), some (.int c), some (.ref a31), some (.int x28), some (.int (nI (c5 + 1))), some (.int (-1))] [] w36 _
                      refine J_goto (pc := 110) (tgt := 52) dX8_list_110 (by decide) ?_
                      exact J_sub (L' := [some (.ref 19), some (.int (nI q1)), some (.int c), some (.ref a31), some (.int x28), some (.int (nI (c5 + 1))), some (.int (nI 0 + Int32.ofInt (-1)))]) ⟨rfl, ⟨rfl, ⟨rfl, ⟨rfl, ⟨rfl, ⟨rfl, ⟨(congrArg (fun z => some (Value.int z)) (by decide : (-1 : Int32) = nI 0 + Int32.ofInt (-1))), trivial⟩⟩⟩⟩⟩⟩⟩ (ihlp52_10 _ _ w36 v36' (k_52 + os33.length + dgs (c6 - 1)) ys36 x28 (c5 + 1) 0 ⟨h19_36, h20_36, h21_36, h22_36, hbb_36, hbl_21, hb3_21⟩ hF36 hB36 (by omega) (by omega) (by omega) (by first | assumption | omega) (by first | assumption | omega) (by first | assumption | omega) (by exact mu_dec (by assumption) (by omega) (by omega) (by omega)))
                    · refine J_istore (pc := 108) dX8_list_108 (by decide) rfl ?_
                      show J X mX8_list d (kc11 - ((gL (k_52 + os33.length) b_52.length - b_52.length) / 18) - ((gL ((k_52 + os33.length) + dgs (c6 - 1)) ys34.length - ys34.length) / 18)) (ks12 - (2 * (gL (k_52 + os33.length) b_52.length - b_52.length)) - (2 * (gL ((k_52 + os33.length) + dgs (c6 - 1)) ys34.length - ys34.length))) 110 [some (.ref 19), some (.int (nI q1)), some (.int c), some (.ref a31), some (.int x28), some (.int (nI (c5 + 1))), some (.int (nI q39))] [] w36 _
                      refine J_goto (pc := 110) (tgt := 52) dX8_list_110 (by decide) ?_
                      exact J_sub (L' := [some (.ref 19), some (.int (nI q1)), some (.int c), some (.ref a31), some (.int x28), some (.int (nI (c5 + 1))), some (.int (nI (q39 + 1) + Int32.ofInt (-1)))]) ⟨rfl, ⟨rfl, ⟨rfl, ⟨rfl, ⟨rfl, ⟨rfl, ⟨(congrArg (fun z => some (Value.int z)) (nI_n1 q39)), trivial⟩⟩⟩⟩⟩⟩⟩ (ihlp52_10 _ _ w36 v36' (k_52 + os33.length + dgs (c6 - 1)) ys36 x28 (c5 + 1) (q39 + 1) ⟨h19_36, h20_36, h21_36, h22_36, hbb_36, hbl_21, hb3_21⟩ hF36 hB36 (by omega) (by omega) (by omega) (by first | assumption | omega) (by first | assumption | omega) (by first | assumption | omega) (by exact mu_dec (by assumption) (by omega) (by omega) (by omega)))
                  · refine J_ldcS (pc := 81) (a := 5) (tx := "") dX8_list_81 List.mem_cons_self ?_
                    refine J_goto (pc := 83) (tgt := 88) dX8_list_83 (by decide) ?_
                    obtain ⟨os40, t40, z40, ho140, ho240, ho340, ho440⟩ := hXO.2.2.1
                    have hgf42 := gL_d (k_52 + os40.length) b_52.length
                    have hB141 := hB16.2.2.2.1
                    have hB241 := hB16.2.2.2.2.1
                    have hB341 := hB16.2.2.2.2.2
                    refine J_callV (pc := 88) (as := [.retAddr 5]) dX8_list_88 fw_J4_append_15ec4 fl_X8_151 fm_J4_append_15ec4 fe_J4_append_15ec4 hB16.1 (by decide) rfl rfl rfl (c_J4_append_15ec4 hs (d := d - 1) (by omega) (a := a31) (v := v_52) (c := k_52) (bs := b_52) (w := w13) hB16 5 t40 z40 os40 ho140 ho240 ho440 (by omega) (by omega) (kc := ((gL (k_52 + os40.length) b_52.length - b_52.length) / 18)) (ks := (2 * (gL (k_52 + os40.length) b_52.length - b_52.length))) (Nat.le_refl _) (Nat.le_refl _)) (by omega) (by omega) (by omega) (st := []) (Nat.le_of_ble_eq_true rfl) rfl (kr_A fun r41 w41 hw41 => ?_) kx_A
                    obtain ⟨hra41, v41', ys41, hB41, hFc41, hvv41, hp41⟩ := hw41
                    obtain rfl := hra41.symm
                    have hgl41 := hFc41.1
                    have hB441 := hB41.2.2.2.1
                    have hB541 := hB41.2.2.2.2.2
                    have hB641 := hB41.2.2.2.2.1
                    have h19_41 := (hFc41.2 19 (by omega) (by omega) (gl h19_21)).trans h19_21
                    have h20_41 := (hFc41.2 20 (by omega) (by omega) (gl h20_21)).trans h20_21
                    have h21_41 := (hFc41.2 21 (by omega) (by omega) (gl h21_21)).trans h21_21
                    have h22_41 := (hFc41.2 22 (by omega) (by omega) (gl h22_21)).trans h22_21
                    have hbb_41 := (hFc41.2 b6 (by omega) (by omega) (gl hb_21)).trans hb_21
                    have hF41 := hF15.sb hFc41 (by omega) (by omega)
                    refine J_iload (pc := 91) dX8_list_91 rfl ?_
                    have hgf44 := gL_d ((k_52 + os40.length) + dgs (c6 - 1)) ys41.length
                    have hgf45 := dgs_le (c6 - 1)
                    have hB143 := hB41.2.2.2.1
                    have hB243 := hB41.2.2.2.2.1
                    have hB343 := hB41.2.2.2.2.2
                    refine J_callV (pc := 93) (as := [.int (nI (c6 - 1))]) dX8_list_93 fw_J4_append_bf812 fl_X8_155 fm_J4_append_bf812 fe_J4_append_bf812 hB41.1 (by decide) rfl rfl rfl (c_J4_append_bf812 hs (d := d - 1) (by omega) hXO (a := a31) (v := v41') (c := k_52 + os40.length) (bs := ys41) (w := w41) hB41 (c6 - 1) (by omega) (by omega) (kc := ((gL ((k_52 + os40.length) + dgs (c6 - 1)) ys41.length - ys41.length) / 18)) (ks := (2 * (gL ((k_52 + os40.length) + dgs (c6 - 1)) ys41.length - ys41.length))) (Nat.le_refl _) (Nat.le_refl _)) (by omega) (by omega) (by omega) (st := []) (Nat.le_of_ble_eq_true rfl) rfl (kr_A fun r43 w43 hw43 => ?_) kx_A
                    obtain ⟨hra43, v43', ys43, hB43, hFc43, hvv43, hp43⟩ := hw43
                    obtain rfl := hra43.symm
                    have hgl43 := hFc43.1
                    have hB443 := hB43.2.2.2.1
                    have hB543 := hB43.2.2.2.2.2
                    have hB643 := hB43.2.2.2.2.1
                    have h19_43 := (hFc43.2 19 (by omega) (by omega) (gl h19_41)).trans h19_41
                    have h20_43 := (hFc43.2 20 (by omega) (by omega) (gl h20_41)).trans h20_41
                    have h21_43 := (hFc43.2 21 (by omega) (by omega) (gl h21_41)).trans h21_41
                    have h22_43 := (hFc43.2 22 (by omega) (by omega) (gl h22_41)).trans h22_41
                    have hbb_43 := (hFc43.2 b6 (by omega) (by omega) (gl hbb_41)).trans hbb_41
                    have hF43 := hF41.sb hFc43 (by omega) (by omega)
                    refine J_pop (pc := 96) dX8_list_96 rfl ?_
                    refine J_iincN (pc := 97) (b := 1) dX8_list_97 rfl (by decide) (by decide) rfl ?_
                    show J X mX8_list d (kc11 - ((gL (k_52 + os40.length) b_52.length - b_52.length) / 18) - ((gL ((k_52 + os40.length) + dgs (c6 - 1)) ys41.length - ys41.length) / 18)) (ks12 - (2 * (gL (k_52 + os40.length) b_52.length - b_52.length)) - (2 * (gL ((k_52 + os40.length) + dgs (c6 - 1)) ys41.length - ys41.length))) 100 [some (.ref 19), some (.int (nI q1)), some (.int c), some (.ref a31), some (.int x28), some (.int (nI (c5 + 1))), some (.int (nI (c6 - 1)))] [] w43 _
                    refine J_aload_n (pc := 100) dX8_list_100 rfl rfl rfl ?_
                    refine J_iload (pc := 101) dX8_list_101 rfl ?_
                    refine J_iconst (pc := 103) (v := nI 1) dX8_list_103 (by decide) ?_
                    refine J_iaddN (pc := 104) dX8_list_104 ?_
                    refine J_callV0 (pc := 105) (as := [.int (nI ((c6 - 1) + 1))]) dX8_list_105 fw_X8_from fl_X8_137 fm_X8_from fe_X8_from h19_43 (by decide) rfl rfl rfl (c_X8_from hs (d := d - 1) (Nat.le_trans (by decide) hdm) (w := w43) (n := n) (mv := mv) (rw := rw6) (nx := nx6) (b := b6) (bt := bt6) (kn := kn6) (en := en6) (dn := dn) (rf := rf) (kk := kk) (th := nI (tW 0 0)) ⟨h19_43, h20_43, h21_43, h22_43, hbb_43, hbl_21, hb3_21⟩ hn1 hn2 gm hgrw6 hgnx6 ((c6 - 1) + 1) (by first | assumption | omega) (kc := 0) (ks := 0)) hdp (st := []) (Nat.le_of_ble_eq_true rfl) rfl (kr_P fun v46 hv46 => ?_) kx_I
                    rcases hv46 with ⟨rfl, hk46_0⟩ | ⟨q46, rfl, hk46_0, hk46_1, hk46_2, hk46_3⟩
                    · refine J_istore (pc := 108) dX8_list_108 (by decide) rfl ?_
                      show J X mX8_list d (kc11 - ((gL (k_52 + os40.length) b_52.length - b_52.length) / 18) - ((gL ((k_52 + os40.length) + dgs (c6 - 1)) ys41.length - ys41.length) / 18)) (ks12 - (2 * (gL (k_52 + os40.length) b_52.length - b_52.length)) - (2 * (gL ((k_52 + os40.length) + dgs (c6 - 1)) ys41.length - ys41.length))) 110 [some (.ref 19), some (.int (nI q1)), some (.int c), some (.ref a31), some (.int x28), some (.int (nI (c5 + 1))), some (.int (-1))] [] w43 _
                      refine J_goto (pc := 110) (tgt := 52) dX8_list_110 (by decide) ?_
                      exact J_sub (L' := [some (.ref 19), some (.int (nI q1)), some (.int c), some (.ref a31), some (.int x28), some (.int (nI (c5 + 1))), some (.int (nI 0 + Int32.ofInt (-1)))]) ⟨rfl, ⟨rfl, ⟨rfl, ⟨rfl, ⟨rfl, ⟨rfl, ⟨(congrArg (fun z => some (Value.int z)) (by decide : (-1 : Int32) = nI 0 + Int32.ofInt (-1))), trivial⟩⟩⟩⟩⟩⟩⟩ (ihlp52_10 _ _ w43 v43' (k_52 + os40.length + dgs (c6 - 1)) ys43 x28 (c5 + 1) 0 ⟨h19_43, h20_43, h21_43, h22_43, hbb_43, hbl_21, hb3_21⟩ hF43 hB43 (by omega) (by omega) (by omega) (by first | assumption | omega) (by first | assumption | omega) (by first | assumption | omega) (by exact mu_dec (by assumption) (by omega) (by omega) (by omega)))
                    · refine J_istore (pc := 108) dX8_list_108 (by decide) rfl ?_
                      show J X mX8_list d (kc11 - ((gL (k_52 + os40.length) b_52.length - b_52.length) / 18) - ((gL ((k_52 + os40.length) + dgs (c6 - 1)) ys41.length - ys41.length) / 18)) (ks12 - (2 * (gL (k_52 + os40.length) b_52.length - b_52.length)) - (2 * (gL ((k_52 + os40.length) + dgs (c6 - 1)) ys41.length - ys41.length))) 110 [some (.ref 19), some (.int (nI q1)), some (.int c), some (.ref a31), some (.int x28), some (.int (nI (c5 + 1))), some (.int (nI q46))] [] w43 _
                      refine J_goto (pc := 110) (tgt := 52) dX8_list_110 (by decide) ?_
                      exact J_sub (L' := [some (.ref 19), some (.int (nI q1)), some (.int c), some (.ref a31), some (.int x28), some (.int (nI (c5 + 1))), some (.int (nI (q46 + 1) + Int32.ofInt (-1)))]) ⟨rfl, ⟨rfl, ⟨rfl, ⟨rfl, ⟨rfl, ⟨rfl, ⟨(congrArg (fun z => some (Value.int z)) (nI_n1 q46)), trivial⟩⟩⟩⟩⟩⟩⟩ (ihlp52_10 _ _ w43 v43' (k_52 + os40.length + dgs (c6 - 1)) ys43 x28 (c5 + 1) (q46 + 1) ⟨h19_43, h20_43, h21_43, h22_43, hbb_43, hbl_21, hb3_21⟩ hF43 hB43 (by omega) (by omega) (by omega) (by first | assumption | omega) (by first | assumption | omega) (by first | assumption | omega) (by exact mu_dec (by assumption) (by omega) (by omega) (by omega)))
                · refine J_goto (pc := 72) (tgt := 100) dX8_list_72 (by decide) ?_
                  refine J_aload_n (pc := 100) dX8_list_100 rfl rfl rfl ?_
                  refine J_iload (pc := 101) dX8_list_101 rfl ?_
                  refine J_iconst (pc := 103) (v := nI 1) dX8_list_103 (by decide) ?_
                  refine J_iaddN (pc := 104) dX8_list_104 ?_
                  refine J_callV0 (pc := 105) (as := [.int (nI ((c6 - 1) + 1))]) dX8_list_105 fw_X8_from fl_X8_137 fm_X8_from fe_X8_from h19_21 (by decide) rfl rfl rfl (c_X8_from hs (d := d - 1) (Nat.le_trans (by decide) hdm) (w := w13) (n := n) (mv := mv) (rw := rw6) (nx := nx6) (b := b6) (bt := bt6) (kn := kn6) (en := en6) (dn := dn) (rf := rf) (kk := kk) (th := nI (tW 0 0)) ⟨h19_21, h20_21, h21_21, h22_21, hb_21, hbl_21, hb3_21⟩ hn1 hn2 gm hgrw6 hgnx6 ((c6 - 1) + 1) (by first | assumption | omega) (kc := 0) (ks := 0)) hdp (st := []) (Nat.le_of_ble_eq_true rfl) rfl (kr_P fun v47 hv47 => ?_) kx_I
                  rcases hv47 with ⟨rfl, hk47_0⟩ | ⟨q47, rfl, hk47_0, hk47_1, hk47_2, hk47_3⟩
                  · refine J_istore (pc := 108) dX8_list_108 (by decide) rfl ?_
                    show J X mX8_list d kc11 ks12 110 [some (.ref 19), some (.int (nI q1)), some (.int c), some (.ref a31), some (.int x28), some (.int (nI c5)), some (.int (-1))] [] w13 _
                    refine J_goto (pc := 110) (tgt := 52) dX8_list_110 (by decide) ?_
                    exact J_sub (L' := [some (.ref 19), some (.int (nI q1)), some (.int c), some (.ref a31), some (.int x28), some (.int (nI c5)), some (.int (nI 0 + Int32.ofInt (-1)))]) ⟨rfl, ⟨rfl, ⟨rfl, ⟨rfl, ⟨rfl, ⟨rfl, ⟨(congrArg (fun z => some (Value.int z)) (by decide : (-1 : Int32) = nI 0 + Int32.ofInt (-1))), trivial⟩⟩⟩⟩⟩⟩⟩ (ihlp52_10 _ _ w13 v_52 k_52 b_52 x28 c5 0 ⟨h19_21, h20_21, h21_21, h22_21, hb_21, hbl_21, hb3_21⟩ hF15 hB16 (by omega) (by omega) (by omega) (by first | assumption | omega) (by first | assumption | omega) (by first | assumption | omega) (by exact mu_dec (by assumption) (by omega) (by omega) (by omega)))
                  · refine J_istore (pc := 108) dX8_list_108 (by decide) rfl ?_
                    show J X mX8_list d kc11 ks12 110 [some (.ref 19), some (.int (nI q1)), some (.int c), some (.ref a31), some (.int x28), some (.int (nI c5)), some (.int (nI q47))] [] w13 _
                    refine J_goto (pc := 110) (tgt := 52) dX8_list_110 (by decide) ?_
                    exact J_sub (L' := [some (.ref 19), some (.int (nI q1)), some (.int c), some (.ref a31), some (.int x28), some (.int (nI c5)), some (.int (nI (q47 + 1) + Int32.ofInt (-1)))]) ⟨rfl, ⟨rfl, ⟨rfl, ⟨rfl, ⟨rfl, ⟨rfl, ⟨(congrArg (fun z => some (Value.int z)) (nI_n1 q47)), trivial⟩⟩⟩⟩⟩⟩⟩ (ihlp52_10 _ _ w13 v_52 k_52 b_52 x28 c5 (q47 + 1) ⟨h19_21, h20_21, h21_21, h22_21, hb_21, hbl_21, hb3_21⟩ hF15 hB16 (by omega) (by omega) (by omega) (by first | assumption | omega) (by first | assumption | omega) (by first | assumption | omega) (by exact mu_dec (by assumption) (by omega) (by omega) (by omega)))
        exact J_sub (L' := [some (.ref 19), some (.int (nI q1)), some (.int c), some (.ref a31), some (.int c), some (.int (nI 0)), some (.int (nI 0 + Int32.ofInt (-1)))]) ⟨rfl, ⟨rfl, ⟨rfl, ⟨rfl, ⟨rfl, ⟨rfl, ⟨(congrArg (fun z => some (Value.int z)) (by decide : (-1 : Int32) = nI 0 + Int32.ofInt (-1))), trivial⟩⟩⟩⟩⟩⟩⟩ (lp52_10 _ _ _ w8 v8' 0 ys8 c 0 0 ⟨h19_8, h20_8, h21_8, h22_8, hbb_8, hbl_6, hb3_6⟩ hF8 hB8 (by omega) (by omega) (by omega) (by first | assumption | omega) (by first | assumption | omega) (by first | assumption | omega) (Nat.lt_succ_self _))
      · refine J_istore (pc := 50) dX8_list_50 (by decide) rfl ?_
        show J X mX8_list d (kc - 13 - 1 - 1) (ks - 2054 - 4 - 16) 52 [some (.ref 19), some (.int (nI q1)), some (.int c), some (.ref a31), some (.int c), some (.int (nI 0)), some (.int (nI q9))] [] w8 _
        have lp52_48 : ∀ (fuel : Nat) (kc49 ks50 : Nat) (w51 : List jC) (v_52 k_52 : Nat) (b_52 : List Int32) (z4 : Int32) (c5 : Nat) (c6 : Nat), (RM n mv rw6 nx6 b6 bt6 kn6 en6 dn rf kk (nI (tW 0 0)) w51) → (FR b b6 w w51) → (SBp a31 v_52 (nI 0) k_52 b_52 w51) → (w.length ≤ v_52) → ((620 - b_52.length) / 18 ≤ kc49) → (1240 - 2 * b_52.length ≤ ks50) → (c6 ≤ fc n) → (c5 ≤ 20) → (k_52 ≤ 5 * c5) → (mu (fc n) c6 < fuel) → J X mX8_list d kc49 ks50 52 [some (.ref 19), some (.int (nI q1)), some (.int c), some (.ref a31), some (.int z4), some (.int (nI c5)), some (.int (nI c6 + Int32.ofInt (-1)))] [] w51 (pA (fun _ w' => ∃ (rw' nx' : Nat → Nat) (b' : Nat) (bt' : List Int32) (kn' en' th' : Int32), RM n mv rw' nx' b' bt' kn' en' dn rf kk th' w' ∧ FR b b' w w' ∧ (∀ i, rw' i < 7) ∧ (∀ i, nx' i < 7) ∧ KB n kn' bt')) := by
          intro fuellp52_48
          induction fuellp52_48 with
          | zero => intros; omega
          | succ fuellp52_48 ihlp52_48 =>
            intro kc49 ks50 w51 v_52 k_52 b_52 z4 c5 c6 hR52 hF53 hB54 hv55 hr56 hr57 hv52_0 hv52_1 hv52_2 hf58
            obtain ⟨h19_59, h20_59, h21_59, h22_59, hb_59, hbl_59, hb3_59⟩ := hR52
            refine J_iload (pc := 52) dX8_list_52 rfl ?_
            refine J_if_ltM (pc := 54) (tgt := 113) dX8_list_54 (by decide) (by omega) (fun ht60 => ?_) (fun hf61 => ?_)
            · refine J_aload_n (pc := 113) dX8_list_113 rfl rfl rfl ?_
              have hB162 := hB54.2.2.2.1
              have hB362 := hB54.2.2.2.2.2
              refine J_callV (pc := 114) (as := []) dX8_list_114 fw_J4_toString_0e30d fl_X8_158 fm_J4_toString_0e30d fe_J4_toString_0e30d hB54.1 (by decide) rfl rfl rfl (c_J4_toString_0e30d hs (d := d - 1) (by omega) (a := a31) (v := v_52) (c := k_52) (bs := b_52) (w := w51) hB54 (kc := 2) (ks := k_52 + 4) (Nat.le_refl _) (Nat.le_refl _)) (by omega) (by omega) (by omega) (st := []) (Nat.le_of_ble_eq_true rfl) rfl (kr_A fun r62 w62 hw62 => ?_) kx_A
              obtain ⟨hra62, hln62, hne62, vz62, zs62, hco62, hcn62, hyl62⟩ := hw62
              have h19_62 := (hne62 19 (gl h19_59)).trans h19_59
              have h20_62 := (hne62 20 (gl h20_59)).trans h20_59
              have h21_62 := (hne62 21 (gl h21_59)).trans h21_59
              have h22_62 := (hne62 22 (gl h22_59)).trans h22_59
              have hbb_62 := (hne62 b6 (gl hb_59)).trans hb_59
              have hF62 := hF53.gr hln62 hne62
              exact J_aret (pc := 117) dX8_list_117 rfl rfl rfl ⟨rw6, nx6, b6, bt6, kn6, en6, nI (tW 0 0), ⟨h19_62, h20_62, h21_62, h22_62, hbb_62, hbl_59, hb3_59⟩, hF62, hgrw6, hgnx6, (by first | assumption | exact Or.inr (by assumption))⟩
            · rw [nI_m1 hf61]
              refine J_iload (pc := 57) dX8_list_57 rfl ?_
              refine J_bipush (pc := 59) (v := nI 20) dX8_list_59 (by decide) ?_
              refine J_icmp_geN (pc := 61) (tgt := 113) dX8_list_61 (by decide) (by omega) (by omega) (fun ht63 => ?_) (fun hf64 => ?_)
              · refine J_aload_n (pc := 113) dX8_list_113 rfl rfl rfl ?_
                have hB165 := hB54.2.2.2.1
                have hB365 := hB54.2.2.2.2.2
                refine J_callV (pc := 114) (as := []) dX8_list_114 fw_J4_toString_0e30d fl_X8_158 fm_J4_toString_0e30d fe_J4_toString_0e30d hB54.1 (by decide) rfl rfl rfl (c_J4_toString_0e30d hs (d := d - 1) (by omega) (a := a31) (v := v_52) (c := k_52) (bs := b_52) (w := w51) hB54 (kc := 2) (ks := k_52 + 4) (Nat.le_refl _) (Nat.le_refl _)) (by omega) (by omega) (by omega) (st := []) (Nat.le_of_ble_eq_true rfl) rfl (kr_A fun r65 w65 hw65 => ?_) kx_A
                obtain ⟨hra65, hln65, hne65, vz65, zs65, hco65, hcn65, hyl65⟩ := hw65
                have h19_65 := (hne65 19 (gl h19_59)).trans h19_59
                have h20_65 := (hne65 20 (gl h20_59)).trans h20_59
                have h21_65 := (hne65 21 (gl h21_59)).trans h21_59
                have h22_65 := (hne65 22 (gl h22_59)).trans h22_59
                have hbb_65 := (hne65 b6 (gl hb_59)).trans hb_59
                have hF65 := hF53.gr hln65 hne65
                exact J_aret (pc := 117) dX8_list_117 rfl rfl rfl ⟨rw6, nx6, b6, bt6, kn6, en6, nI (tW 0 0), ⟨h19_65, h20_65, h21_65, h22_65, hbb_65, hbl_59, hb3_59⟩, hF65, hgrw6, hgnx6, (by first | assumption | exact Or.inr (by assumption))⟩
              · refine J_iinc (pc := 64) dX8_list_64 rfl rfl (by decide) rfl ?_
                generalize z4 + Int32.ofInt (-1) = x66
                show J X mX8_list d kc49 ks50 67 [some (.ref 19), some (.int (nI q1)), some (.int c), some (.ref a31), some (.int x66), some (.int (nI c5)), some (.int (nI (c6 - 1)))] [] w51 _
                refine J_iload (pc := 67) dX8_list_67 rfl ?_
                refine J_if_lt (pc := 69) (tgt := 75) dX8_list_69 (by decide) (fun ht67 => ?_) (fun hf68 => ?_)
                · refine J_aload_n (pc := 75) dX8_list_75 rfl rfl rfl ?_
                  refine J_iload (pc := 76) dX8_list_76 rfl ?_
                  refine J_if_neN (pc := 78) (tgt := 86) dX8_list_78 (by decide) (by omega) (fun ht69 => ?_) (fun hf70 => ?_)
                  · refine J_ldcS (pc := 86) (a := 6) (tx := " ") dX8_list_86 (List.mem_cons_of_mem _ List.mem_cons_self) ?_
                    obtain ⟨os71, t71, z71, ho171, ho271, ho371, ho471⟩ := hXO.2.2.2
                    have hgf73 := gL_d (k_52 + os71.length) b_52.length
                    have hB172 := hB54.2.2.2.1
                    have hB272 := hB54.2.2.2.2.1
                    have hB372 := hB54.2.2.2.2.2
                    refine J_callV (pc := 88) (as := [.retAddr 6]) dX8_list_88 fw_J4_append_15ec4 fl_X8_151 fm_J4_append_15ec4 fe_J4_append_15ec4 hB54.1 (by decide) rfl rfl rfl (c_J4_append_15ec4 hs (d := d - 1) (by omega) (a := a31) (v := v_52) (c := k_52) (bs := b_52) (w := w51) hB54 6 t71 z71 os71 ho171 ho271 ho471 (by omega) (by omega) (kc := ((gL (k_52 + os71.length) b_52.length - b_52.length) / 18)) (ks := (2 * (gL (k_52 + os71.length) b_52.length - b_52.length))) (Nat.le_refl _) (Nat.le_refl _)) (by omega) (by omega) (by omega) (st := []) (Nat.le_of_ble_eq_true rfl) rfl (kr_A fun r72 w72 hw72 => ?_) kx_A
                    obtain ⟨hra72, v72', ys72, hB72, hFc72, hvv72, hp72⟩ := hw72
                    obtain rfl := hra72.symm
                    have hgl72 := hFc72.1
                    have hB472 := hB72.2.2.2.1
                    have hB572 := hB72.2.2.2.2.2
                    have hB672 := hB72.2.2.2.2.1
                    have h19_72 := (hFc72.2 19 (by omega) (by omega) (gl h19_59)).trans h19_59
                    have h20_72 := (hFc72.2 20 (by omega) (by omega) (gl h20_59)).trans h20_59
                    have h21_72 := (hFc72.2 21 (by omega) (by omega) (gl h21_59)).trans h21_59
                    have h22_72 := (hFc72.2 22 (by omega) (by omega) (gl h22_59)).trans h22_59
                    have hbb_72 := (hFc72.2 b6 (by omega) (by omega) (gl hb_59)).trans hb_59
                    have hF72 := hF53.sb hFc72 (by omega) (by omega)
                    refine J_iload (pc := 91) dX8_list_91 rfl ?_
                    have hgf75 := gL_d ((k_52 + os71.length) + dgs (c6 - 1)) ys72.length
                    have hgf76 := dgs_le (c6 - 1)
                    have hB174 := hB72.2.2.2.1
                    have hB274 := hB72.2.2.2.2.1
                    have hB374 := hB72.2.2.2.2.2
                    refine J_callV (pc := 93) (as := [.int (nI (c6 - 1))]) dX8_list_93 fw_J4_append_bf812 fl_X8_155 fm_J4_append_bf812 fe_J4_append_bf812 hB72.1 (by decide) rfl rfl rfl (c_J4_append_bf812 hs (d := d - 1) (by omega) hXO (a := a31) (v := v72') (c := k_52 + os71.length) (bs := ys72) (w := w72) hB72 (c6 - 1) (by omega) (by omega) (kc := ((gL ((k_52 + os71.length) + dgs (c6 - 1)) ys72.length - ys72.length) / 18)) (ks := (2 * (gL ((k_52 + os71.length) + dgs (c6 - 1)) ys72.length - ys72.length))) (Nat.le_refl _) (Nat.le_refl _)) (by omega) (by omega) (by omega) (st := []) (Nat.le_of_ble_eq_true rfl) rfl (kr_A fun r74 w74 hw74 => ?_) kx_A
                    obtain ⟨hra74, v74', ys74, hB74, hFc74, hvv74, hp74⟩ := hw74
                    obtain rfl := hra74.symm
                    have hgl74 := hFc74.1
                    have hB474 := hB74.2.2.2.1
                    have hB574 := hB74.2.2.2.2.2
                    have hB674 := hB74.2.2.2.2.1
                    have h19_74 := (hFc74.2 19 (by omega) (by omega) (gl h19_72)).trans h19_72
                    have h20_74 := (hFc74.2 20 (by omega) (by omega) (gl h20_72)).trans h20_72
                    have h21_74 := (hFc74.2 21 (by omega) (by omega) (gl h21_72)).trans h21_72
                    have h22_74 := (hFc74.2 22 (by omega) (by omega) (gl h22_72)).trans h22_72
                    have hbb_74 := (hFc74.2 b6 (by omega) (by omega) (gl hbb_72)).trans hbb_72
                    have hF74 := hF72.sb hFc74 (by omega) (by omega)
                    refine J_pop (pc := 96) dX8_list_96 rfl ?_
                    refine J_iincN (pc := 97) (b := 1) dX8_list_97 rfl (by decide) (by decide) rfl ?_
                    show J X mX8_list d (kc49 - ((gL (k_52 + os71.length) b_52.length - b_52.length) / 18) - ((gL ((k_52 + os71.length) + dgs (c6 - 1)) ys72.length - ys72.length) / 18)) (ks50 - (2 * (gL (k_52 + os71.length) b_52.length - b_52.length)) - (2 * (gL ((k_52 + os71.length) + dgs (c6 - 1)) ys72.length - ys72.length))) 100 [some (.ref 19), some (.int (nI q1)), some (.int c), some (.ref a31), some (.int x66), some (.int (nI (c5 + 1))), some (.int (nI (c6 - 1)))] [] w74 _
                    refine J_aload_n (pc := 100) dX8_list_100 rfl rfl rfl ?_
                    refine J_iload (pc := 101) dX8_list_101 rfl ?_
                    refine J_iconst (pc := 103) (v := nI 1) dX8_list_103 (by decide) ?_
                    refine J_iaddN (pc := 104) dX8_list_104 ?_
                    refine J_callV0 (pc := 105) (as := [.int (nI ((c6 - 1) + 1))]) dX8_list_105 fw_X8_from fl_X8_137 fm_X8_from fe_X8_from h19_74 (by decide) rfl rfl rfl (c_X8_from hs (d := d - 1) (Nat.le_trans (by decide) hdm) (w := w74) (n := n) (mv := mv) (rw := rw6) (nx := nx6) (b := b6) (bt := bt6) (kn := kn6) (en := en6) (dn := dn) (rf := rf) (kk := kk) (th := nI (tW 0 0)) ⟨h19_74, h20_74, h21_74, h22_74, hbb_74, hbl_59, hb3_59⟩ hn1 hn2 gm hgrw6 hgnx6 ((c6 - 1) + 1) (by first | assumption | omega) (kc := 0) (ks := 0)) hdp (st := []) (Nat.le_of_ble_eq_true rfl) rfl (kr_P fun v77 hv77 => ?_) kx_I
                    rcases hv77 with ⟨rfl, hk77_0⟩ | ⟨q77, rfl, hk77_0, hk77_1, hk77_2, hk77_3⟩
                    · refine J_istore (pc := 108) dX8_list_108 (by decide) rfl ?_
                      show J X mX8_list d (kc49 - ((gL (k_52 + os71.length) b_52.length - b_52.length) / 18) - ((gL ((k_52 + os71.length) + dgs (c6 - 1)) ys72.length - ys72.length) / 18)) (ks50 - (2 * (gL (k_52 + os71.length) b_52.length - b_52.length)) - (2 * (gL ((k_52 + os71.length) + dgs (c6 - 1)) ys72.length - ys72.length))) 110 [some (.ref 19), some (.int (nI q1)), some (.int c), some (.ref a31), some (.int x66), some (.int (nI (c5 + 1))), some (.int (-1))] [] w74 _
                      refine J_goto (pc := 110) (tgt := 52) dX8_list_110 (by decide) ?_
                      exact J_sub (L' := [some (.ref 19), some (.int (nI q1)), some (.int c), some (.ref a31), some (.int x66), some (.int (nI (c5 + 1))), some (.int (nI 0 + Int32.ofInt (-1)))]) ⟨rfl, ⟨rfl, ⟨rfl, ⟨rfl, ⟨rfl, ⟨rfl, ⟨(congrArg (fun z => some (Value.int z)) (by decide : (-1 : Int32) = nI 0 + Int32.ofInt (-1))), trivial⟩⟩⟩⟩⟩⟩⟩ (ihlp52_48 _ _ w74 v74' (k_52 + os71.length + dgs (c6 - 1)) ys74 x66 (c5 + 1) 0 ⟨h19_74, h20_74, h21_74, h22_74, hbb_74, hbl_59, hb3_59⟩ hF74 hB74 (by omega) (by omega) (by omega) (by first | assumption | omega) (by first | assumption | omega) (by first | assumption | omega) (by exact mu_dec (by assumption) (by omega) (by omega) (by omega)))
                    · refine J_istore (pc := 108) dX8_list_108 (by decide) rfl ?_
                      show J X mX8_list d (kc49 - ((gL (k_52 + os71.length) b_52.length - b_52.length) / 18) - ((gL ((k_52 + os71.length) + dgs (c6 - 1)) ys72.length - ys72.length) / 18)) (ks50 - (2 * (gL (k_52 + os71.length) b_52.length - b_52.length)) - (2 * (gL ((k_52 + os71.length) + dgs (c6 - 1)) ys72.length - ys72.length))) 110 [some (.ref 19), some (.int (nI q1)), some (.int c), some (.ref a31), some (.int x66), some (.int (nI (c5 + 1))), some (.int (nI q77))] [] w74 _
                      refine J_goto (pc := 110) (tgt := 52) dX8_list_110 (by decide) ?_
                      exact J_sub (L' := [some (.ref 19), some (.int (nI q1)), some (.int c), some (.ref a31), some (.int x66), some (.int (nI (c5 + 1))), some (.int (nI (q77 + 1) + Int32.ofInt (-1)))]) ⟨rfl, ⟨rfl, ⟨rfl, ⟨rfl, ⟨rfl, ⟨rfl, ⟨(congrArg (fun z => some (Value.int z)) (nI_n1 q77)), trivial⟩⟩⟩⟩⟩⟩⟩ (ihlp52_48 _ _ w74 v74' (k_52 + os71.length + dgs (c6 - 1)) ys74 x66 (c5 + 1) (q77 + 1) ⟨h19_74, h20_74, h21_74, h22_74, hbb_74, hbl_59, hb3_59⟩ hF74 hB74 (by omega) (by omega) (by omega) (by first | assumption | omega) (by first | assumption | omega) (by first | assumption | omega) (by exact mu_dec (by assumption) (by omega) (by omega) (by omega)))
                  · refine J_ldcS (pc := 81) (a := 5) (tx := "") dX8_list_81 List.mem_cons_self ?_
                    refine J_goto (pc := 83) (tgt := 88) dX8_list_83 (by decide) ?_
                    obtain ⟨os78, t78, z78, ho178, ho278, ho378, ho478⟩ := hXO.2.2.1
                    have hgf80 := gL_d (k_52 + os78.length) b_52.length
                    have hB179 := hB54.2.2.2.1
                    have hB279 := hB54.2.2.2.2.1
                    have hB379 := hB54.2.2.2.2.2
                    refine J_callV (pc := 88) (as := [.retAddr 5]) dX8_list_88 fw_J4_append_15ec4 fl_X8_151 fm_J4_append_15ec4 fe_J4_append_15ec4 hB54.1 (by decide) rfl rfl rfl (c_J4_append_15ec4 hs (d := d - 1) (by omega) (a := a31) (v := v_52) (c := k_52) (bs := b_52) (w := w51) hB54 5 t78 z78 os78 ho178 ho278 ho478 (by omega) (by omega) (kc := ((gL (k_52 + os78.length) b_52.length - b_52.length) / 18)) (ks := (2 * (gL (k_52 + os78.length) b_52.length - b_52.length))) (Nat.le_refl _) (Nat.le_refl _)) (by omega) (by omega) (by omega) (st := []) (Nat.le_of_ble_eq_true rfl) rfl (kr_A fun r79 w79 hw79 => ?_) kx_A
                    obtain ⟨hra79, v79', ys79, hB79, hFc79, hvv79, hp79⟩ := hw79
                    obtain rfl := hra79.symm
                    have hgl79 := hFc79.1
                    have hB479 := hB79.2.2.2.1
                    have hB579 := hB79.2.2.2.2.2
                    have hB679 := hB79.2.2.2.2.1
                    have h19_79 := (hFc79.2 19 (by omega) (by omega) (gl h19_59)).trans h19_59
                    have h20_79 := (hFc79.2 20 (by omega) (by omega) (gl h20_59)).trans h20_59
                    have h21_79 := (hFc79.2 21 (by omega) (by omega) (gl h21_59)).trans h21_59
                    have h22_79 := (hFc79.2 22 (by omega) (by omega) (gl h22_59)).trans h22_59
                    have hbb_79 := (hFc79.2 b6 (by omega) (by omega) (gl hb_59)).trans hb_59
                    have hF79 := hF53.sb hFc79 (by omega) (by omega)
                    refine J_iload (pc := 91) dX8_list_91 rfl ?_
                    have hgf82 := gL_d ((k_52 + os78.length) + dgs (c6 - 1)) ys79.length
                    have hgf83 := dgs_le (c6 - 1)
                    have hB181 := hB79.2.2.2.1
                    have hB281 := hB79.2.2.2.2.1
                    have hB381 := hB79.2.2.2.2.2
                    refine J_callV (pc := 93) (as := [.int (nI (c6 - 1))]) dX8_list_93 fw_J4_append_bf812 fl_X8_155 fm_J4_append_bf812 fe_J4_append_bf812 hB79.1 (by decide) rfl rfl rfl (c_J4_append_bf812 hs (d := d - 1) (by omega) hXO (a := a31) (v := v79') (c := k_52 + os78.length) (bs := ys79) (w := w79) hB79 (c6 - 1) (by omega) (by omega) (kc := ((gL ((k_52 + os78.length) + dgs (c6 - 1)) ys79.length - ys79.length) / 18)) (ks := (2 * (gL ((k_52 + os78.length) + dgs (c6 - 1)) ys79.length - ys79.length))) (Nat.le_refl _) (Nat.le_refl _)) (by omega) (by omega) (by omega) (st := []) (Nat.le_of_ble_eq_true rfl) rfl (kr_A fun r81 w81 hw81 => ?_) kx_A
                    obtain ⟨hra81, v81', ys81, hB81, hFc81, hvv81, hp81⟩ := hw81
                    obtain rfl := hra81.symm
                    have hgl81 := hFc81.1
                    have hB481 := hB81.2.2.2.1
                    have hB581 := hB81.2.2.2.2.2
                    have hB681 := hB81.2.2.2.2.1
                    have h19_81 := (hFc81.2 19 (by omega) (by omega) (gl h19_79)).trans h19_79
                    have h20_81 := (hFc81.2 20 (by omega) (by omega) (gl h20_79)).trans h20_79
                    have h21_81 := (hFc81.2 21 (by omega) (by omega) (gl h21_79)).trans h21_79
                    have h22_81 := (hFc81.2 22 (by omega) (by omega) (gl h22_79)).trans h22_79
                    have hbb_81 := (hFc81.2 b6 (by omega) (by omega) (gl hbb_79)).trans hbb_79
                    have hF81 := hF79.sb hFc81 (by omega) (by omega)
                    refine J_pop (pc := 96) dX8_list_96 rfl ?_
                    refine J_iincN (pc := 97) (b := 1) dX8_list_97 rfl (by decide) (by decide) rfl ?_
                    show J X mX8_list d (kc49 - ((gL (k_52 + os78.length) b_52.length - b_52.length) / 18) - ((gL ((k_52 + os78.length) + dgs (c6 - 1)) ys79.length - ys79.length) / 18)) (ks50 - (2 * (gL (k_52 + os78.length) b_52.length - b_52.length)) - (2 * (gL ((k_52 + os78.length) + dgs (c6 - 1)) ys79.length - ys79.length))) 100 [some (.ref 19), some (.int (nI q1)), some (.int c), some (.ref a31), some (.int x66), some (.int (nI (c5 + 1))), some (.int (nI (c6 - 1)))] [] w81 _
                    refine J_aload_n (pc := 100) dX8_list_100 rfl rfl rfl ?_
                    refine J_iload (pc := 101) dX8_list_101 rfl ?_
                    refine J_iconst (pc := 103) (v := nI 1) dX8_list_103 (by decide) ?_
                    refine J_iaddN (pc := 104) dX8_list_104 ?_
                    refine J_callV0 (pc := 105) (as := [.int (nI ((c6 - 1) + 1))]) dX8_list_105 fw_X8_from fl_X8_137 fm_X8_from fe_X8_from h19_81 (by decide) rfl rfl rfl (c_X8_from hs (d := d - 1) (Nat.le_trans (by decide) hdm) (w := w81) (n := n) (mv := mv) (rw := rw6) (nx := nx6) (b := b6) (bt := bt6) (kn := kn6) (en := en6) (dn := dn) (rf := rf) (kk := kk) (th := nI (tW 0 0)) ⟨h19_81, h20_81, h21_81, h22_81, hbb_81, hbl_59, hb3_59⟩ hn1 hn2 gm hgrw6 hgnx6 ((c6 - 1) + 1) (by first | assumption | omega) (kc := 0) (ks := 0)) hdp (st := []) (Nat.le_of_ble_eq_true rfl) rfl (kr_P fun v84 hv84 => ?_) kx_I
                    rcases hv84 with ⟨rfl, hk84_0⟩ | ⟨q84, rfl, hk84_0, hk84_1, hk84_2, hk84_3⟩
                    · refine J_istore (pc := 108) dX8_list_108 (by decide) rfl ?_
                      show J X mX8_list d (kc49 - ((gL (k_52 + os78.length) b_52.length - b_52.length) / 18) - ((gL ((k_52 + os78.length) + dgs (c6 - 1)) ys79.length - ys79.length) / 18)) (ks50 - (2 * (gL (k_52 + os78.length) b_52.length - b_52.length)) - (2 * (gL ((k_52 + os78.length) + dgs (c6 - 1)) ys79.length - ys79.length))) 110 [some (.ref 19), some (.int (nI q1)), some (.int c), some (.ref a31), some (.int x66), some (.int (nI (c5 + 1))), some (.int (-1))] [] w81 _
                      refine J_goto (pc := 110) (tgt := 52) dX8_list_110 (by decide) ?_
                      exact J_sub (L' := [some (.ref 19), some (.int (nI q1)), some (.int c), some (.ref a31), some (.int x66), some (.int (nI (c5 + 1))), some (.int (nI 0 + Int32.ofInt (-1)))]) ⟨rfl, ⟨rfl, ⟨rfl, ⟨rfl, ⟨rfl, ⟨rfl, ⟨(congrArg (fun z => some (Value.int z)) (by decide : (-1 : Int32) = nI 0 + Int32.ofInt (-1))), trivial⟩⟩⟩⟩⟩⟩⟩ (ihlp52_48 _ _ w81 v81' (k_52 + os78.length + dgs (c6 - 1)) ys81 x66 (c5 + 1) 0 ⟨h19_81, h20_81, h21_81, h22_81, hbb_81, hbl_59, hb3_59⟩ hF81 hB81 (by omega) (by omega) (by omega) (by first | assumption | omega) (by first | assumption | omega) (by first | assumption | omega) (by exact mu_dec (by assumption) (by omega) (by omega) (by omega)))
                    · refine J_istore (pc := 108) dX8_list_108 (by decide) rfl ?_
                      show J X mX8_list d (kc49 - ((gL (k_52 + os78.length) b_52.length - b_52.length) / 18) - ((gL ((k_52 + os78.length) + dgs (c6 - 1)) ys79.length - ys79.length) / 18)) (ks50 - (2 * (gL (k_52 + os78.length) b_52.length - b_52.length)) - (2 * (gL ((k_52 + os78.length) + dgs (c6 - 1)) ys79.length - ys79.length))) 110 [some (.ref 19), some (.int (nI q1)), some (.int c), some (.ref a31), some (.int x66), some (.int (nI (c5 + 1))), some (.int (nI q84))] [] w81 _
                      refine J_goto (pc := 110) (tgt := 52) dX8_list_110 (by decide) ?_
                      exact J_sub (L' := [some (.ref 19), some (.int (nI q1)), some (.int c), some (.ref a31), some (.int x66), some (.int (nI (c5 + 1))), some (.int (nI (q84 + 1) + Int32.ofInt (-1)))]) ⟨rfl, ⟨rfl, ⟨rfl, ⟨rfl, ⟨rfl, ⟨rfl, ⟨(congrArg (fun z => some (Value.int z)) (nI_n1 q84)), trivial⟩⟩⟩⟩⟩⟩⟩ (ihlp52_48 _ _ w81 v81' (k_52 + os78.length + dgs (c6 - 1)) ys81 x66 (c5 + 1) (q84 + 1) ⟨h19_81, h20_81, h21_81, h22_81, hbb_81, hbl_59, hb3_59⟩ hF81 hB81 (by omega) (by omega) (by omega) (by first | assumption | omega) (by first | assumption | omega) (by first | assumption | omega) (by exact mu_dec (by assumption) (by omega) (by omega) (by omega)))
                · refine J_goto (pc := 72) (tgt := 100) dX8_list_72 (by decide) ?_
                  refine J_aload_n (pc := 100) dX8_list_100 rfl rfl rfl ?_
                  refine J_iload (pc := 101) dX8_list_101 rfl ?_
                  refine J_iconst (pc := 103) (v := nI 1) dX8_list_103 (by decide) ?_
                  refine J_iaddN (pc := 104) dX8_list_104 ?_
                  refine J_callV0 (pc := 105) (as := [.int (nI ((c6 - 1) + 1))]) dX8_list_105 fw_X8_from fl_X8_137 fm_X8_from fe_X8_from h19_59 (by decide) rfl rfl rfl (c_X8_from hs (d := d - 1) (Nat.le_trans (by decide) hdm) (w := w51) (n := n) (mv := mv) (rw := rw6) (nx := nx6) (b := b6) (bt := bt6) (kn := kn6) (en := en6) (dn := dn) (rf := rf) (kk := kk) (th := nI (tW 0 0)) ⟨h19_59, h20_59, h21_59, h22_59, hb_59, hbl_59, hb3_59⟩ hn1 hn2 gm hgrw6 hgnx6 ((c6 - 1) + 1) (by first | assumption | omega) (kc := 0) (ks := 0)) hdp (st := []) (Nat.le_of_ble_eq_true rfl) rfl (kr_P fun v85 hv85 => ?_) kx_I
                  rcases hv85 with ⟨rfl, hk85_0⟩ | ⟨q85, rfl, hk85_0, hk85_1, hk85_2, hk85_3⟩
                  · refine J_istore (pc := 108) dX8_list_108 (by decide) rfl ?_
                    show J X mX8_list d kc49 ks50 110 [some (.ref 19), some (.int (nI q1)), some (.int c), some (.ref a31), some (.int x66), some (.int (nI c5)), some (.int (-1))] [] w51 _
                    refine J_goto (pc := 110) (tgt := 52) dX8_list_110 (by decide) ?_
                    exact J_sub (L' := [some (.ref 19), some (.int (nI q1)), some (.int c), some (.ref a31), some (.int x66), some (.int (nI c5)), some (.int (nI 0 + Int32.ofInt (-1)))]) ⟨rfl, ⟨rfl, ⟨rfl, ⟨rfl, ⟨rfl, ⟨rfl, ⟨(congrArg (fun z => some (Value.int z)) (by decide : (-1 : Int32) = nI 0 + Int32.ofInt (-1))), trivial⟩⟩⟩⟩⟩⟩⟩ (ihlp52_48 _ _ w51 v_52 k_52 b_52 x66 c5 0 ⟨h19_59, h20_59, h21_59, h22_59, hb_59, hbl_59, hb3_59⟩ hF53 hB54 (by omega) (by omega) (by omega) (by first | assumption | omega) (by first | assumption | omega) (by first | assumption | omega) (by exact mu_dec (by assumption) (by omega) (by omega) (by omega)))
                  · refine J_istore (pc := 108) dX8_list_108 (by decide) rfl ?_
                    show J X mX8_list d kc49 ks50 110 [some (.ref 19), some (.int (nI q1)), some (.int c), some (.ref a31), some (.int x66), some (.int (nI c5)), some (.int (nI q85))] [] w51 _
                    refine J_goto (pc := 110) (tgt := 52) dX8_list_110 (by decide) ?_
                    exact J_sub (L' := [some (.ref 19), some (.int (nI q1)), some (.int c), some (.ref a31), some (.int x66), some (.int (nI c5)), some (.int (nI (q85 + 1) + Int32.ofInt (-1)))]) ⟨rfl, ⟨rfl, ⟨rfl, ⟨rfl, ⟨rfl, ⟨rfl, ⟨(congrArg (fun z => some (Value.int z)) (nI_n1 q85)), trivial⟩⟩⟩⟩⟩⟩⟩ (ihlp52_48 _ _ w51 v_52 k_52 b_52 x66 c5 (q85 + 1) ⟨h19_59, h20_59, h21_59, h22_59, hb_59, hbl_59, hb3_59⟩ hF53 hB54 (by omega) (by omega) (by omega) (by first | assumption | omega) (by first | assumption | omega) (by first | assumption | omega) (by exact mu_dec (by assumption) (by omega) (by omega) (by omega)))
        exact J_sub (L' := [some (.ref 19), some (.int (nI q1)), some (.int c), some (.ref a31), some (.int c), some (.int (nI 0)), some (.int (nI (q9 + 1) + Int32.ofInt (-1)))]) ⟨rfl, ⟨rfl, ⟨rfl, ⟨rfl, ⟨rfl, ⟨rfl, ⟨(congrArg (fun z => some (Value.int z)) (nI_n1 q9)), trivial⟩⟩⟩⟩⟩⟩⟩ (lp52_48 _ _ _ w8 v8' 0 ys8 c 0 (q9 + 1) ⟨h19_8, h20_8, h21_8, h22_8, hbb_8, hbl_6, hb3_6⟩ hF8 hB8 (by omega) (by omega) (by omega) (by first | assumption | omega) (by first | assumption | omega) (by first | assumption | omega) (Nat.lt_succ_self _))
    · refine J_iconst (pc := 12) (v := nI 1) dX8_list_12 (by decide) ?_
      refine J_goto (pc := 13) (tgt := 17) dX8_list_13 (by decide) ?_
      refine J_callV0 (pc := 17) (as := [.int (nI 1)]) dX8_list_17 fw_X8_isThrown_ fl_X8_105 fm_X8_isThrown_ fe_X8_isThrown_ h19 (by decide) rfl rfl rfl (c_X8_isThrown_ hs (d := d - 1) (Nat.le_trans (by decide) hdm) (w := w) (n := n) (mv := mv) (rw := rw) (nx := nx) (b := b) (bt := bt) (kn := kn) (en := en) (dn := dn) (rf := rf) (kk := kk) (th := th) ⟨h19, h20, h21, h22, hbb, hbl, hb3⟩ hn1 hn2 gm gr gx 1 (by first | assumption | omega) (kc := 0) (ks := 0)) hdp (st := []) (Nat.le_of_ble_eq_true rfl) rfl (kr_I fun v86 w86 hv86 hw86 => ?_) kx_I
      obtain ⟨hR86, hFc86⟩ := hw86
      obtain ⟨h19_86, h20_86, h21_86, h22_86, hbb_86, hbl_86, hb3_86⟩ := hR86
      have hF86 := hF.tr hFc86
      subst hv86
      show J X mX8_list d kc ks 20 [some (.ref 19), some (.int (nI q1)), some (.int c), none, none, none, none] [.int (nI 1)] w86 _
      refine J_if_eqN (pc := 20) (tgt := 26) dX8_list_20 (by decide) (by decide) (fun h => absurd h (by decide)) (fun _ => ?_)
      refine J_ldcS (pc := 23) (a := 5) (tx := "") dX8_list_23 List.mem_cons_self ?_
      exact J_aret (pc := 25) dX8_list_25 rfl rfl rfl ⟨rw, nx, b, bt, kn, en, nI (tW 1 0), ⟨h19_86, h20_86, h21_86, h22_86, hbb_86, hbl_86, hb3_86⟩, hF86, gr, gx, (by first | assumption | exact Or.inr (by assumption))⟩
set_option maxRecDepth 100000 in
set_option maxHeartbeats 40000000 in
theorem c_X8_digest {X : jX} (hs : X.1.stackTraces = false) {d : Nat} (hd : 16 ≤ d) (hXO : XO X) {n : Nat} {mv rw nx : Nat → Nat} {b : Nat} {bt : List Int32} {kn en dn rf kk th : Int32} {w : List jC} (hR : RM n mv rw nx b bt kn en dn rf kk th w) (hn1 : 2 ≤ n) (hn2 : n ≤ 7) (gm : ∀ i, mv i < 7) (gr : ∀ i, rw i < 7) (gx : ∀ i, nx i < 7) (hy0 : PM n mv) (hy1 : KB n kn bt) {kc ks : Nat} (hkc : 330 ≤ kc) (hks : 26000 ≤ ks) : jMet X mX8_digest d kc ks [.ref 19] w (pL (fun _ => True) (fun w' => ∃ (rw' : Nat → Nat), ∃ (nx' : Nat → Nat), ∃ (b' : Nat), ∃ (bt' : List Int32), ∃ (kn' : Int32), ∃ (en' : Int32), ∃ (th' : Int32), RM n mv rw' nx' b' bt' kn' en' dn rf kk th' w' ∧ FR b b' w w' ∧ (∀ i, rw' i < 7) ∧ (∀ i, nx' i < 7) ∧ KB n kn' bt')) := by
  refine jMet_of hs (by decide +kernel) (Nat.le_of_ble_eq_true rfl) (L := [some (.ref 19), none, none, none]) rfl ?_
  have hdm : 15 ≤ d - 1 := by omega
  have hdp : d - 1 + 1 ≤ d := by omega
  have hfc := fc_7 hn2
  have hfp := fc_pos n
  obtain ⟨h19, h20, h21, h22, hbb, hbl, hb3⟩ := hR
  have hF : FR b b w w := FR.rf
  refine J_aload_n (pc := 0) dX8_digest_0 rfl rfl rfl ?_
  refine J_iconst (pc := 1) (v := nI 0) dX8_digest_1 (by decide) ?_
  refine J_putW (pc := 2) (k := 10) dX8_digest_2 kC9 (by decide) ff_X8_32 (Or.inl rfl) ⟨rfl, rfl⟩ h19 (by show 10 < 11; decide) (fun w1 hln1 hw1 hne1 => ?_)
  have h19_1 : w1[19]? = some (.inr (9, [.int (nI n), .ref 20, .ref 21, .ref 22, .ref b, .int kn, .int en, .int dn, .int rf, .int kk, .int (nI 0)])) := hw1
  have h20_1 := (hne1 20 (by decide)).trans h20
  have h21_1 := (hne1 21 (by decide)).trans h21
  have h22_1 := (hne1 22 (by decide)).trans h22
  have hb_1 := (hne1 _ (Nat.ne_of_gt (Nat.lt_of_lt_of_le (by decide) hb3))).trans hbb
  have hF1 := hF.st hln1 hne1 (Or.inl (by decide))
  refine J_ldc2 (pc := 5) dX8_digest_5 fk_X8_237 (J_absL fun y2 => ?_)
  refine J_aload_n (pc := 8) dX8_digest_8 rfl rfl rfl ?_
  refine J_get (pc := 9) (k := 0) dX8_digest_9 kC9 (by decide) ff_X8_7 h19_1 rfl ?_
  refine J_i2l (pc := 12) dX8_digest_12 (J_absL fun y3 => ?_)
  refine J_ladd (pc := 13) dX8_digest_13 (J_absL fun y4 => ?_)
  refine J_lstore_n (pc := 14) dX8_digest_14 rfl (by decide) rfl ?_
  show J X mX8_digest d kc ks 15 [some (.ref 19), some (.long y4), none, none] [] w1 _
  refine J_iconst (pc := 15) (v := nI 0) dX8_digest_15 (by decide) ?_
  refine J_istore_n (pc := 16) dX8_digest_16 rfl (by decide) rfl ?_
  show J X mX8_digest d kc ks 17 [some (.ref 19), some (.long y4), none, some (.int (nI 0))] [] w1 _
  have lp17_5 : ∀ (fuel : Nat) (kc6 ks7 : Nat) (w8 : List jC) (y1 : Int64) (c3 : Nat), (RM n mv rw nx b bt kn en dn rf kk (nI 0) w8) → (FR b b w w8) → ((6 - c3) * 40 + 80 ≤ kc6) → ((6 - c3) * 1500 + 16700 ≤ ks7) → (c3 ≤ 6) → (6 - c3 < fuel) → J X mX8_digest d kc6 ks7 17 [some (.ref 19), some (.long y1), none, some (.int (nI c3))] [] w8 (pL (fun _ => True) (fun w' => ∃ (rw' : Nat → Nat), ∃ (nx' : Nat → Nat), ∃ (b' : Nat), ∃ (bt' : List Int32), ∃ (kn' : Int32), ∃ (en' : Int32), ∃ (th' : Int32), RM n mv rw' nx' b' bt' kn' en' dn rf kk th' w' ∧ FR b b' w w' ∧ (∀ i, rw' i < 7) ∧ (∀ i, nx' i < 7) ∧ KB n kn' bt')) := by
    intro fuellp17_5
    induction fuellp17_5 with
    | zero => intros; omega
    | succ fuellp17_5 ihlp17_5 =>
      intro kc6 ks7 w8 y1 c3 hR9 hF10 hr11 hr12 hv17_0 hf13
      obtain ⟨h19_14, h20_14, h21_14, h22_14, hb_14, hbl_14, hb3_14⟩ := hR9
      refine J_iload_n (pc := 17) dX8_digest_17 rfl rfl ?_
      refine J_bipush (pc := 18) (v := nI 6) dX8_digest_18 (by decide) ?_
      refine J_icmp_geN (pc := 20) (tgt := 112) dX8_digest_20 (by decide) (by omega) (by omega) (fun ht15 => ?_) (fun hf16 => ?_)
      · refine J_lload_n (pc := 112) dX8_digest_112 rfl rfl ?_
        refine J_ldc2 (pc := 113) dX8_digest_113 fk_X8_239 (J_absL fun y17 => ?_)
        refine J_lmul (pc := 116) dX8_digest_116 (J_absL fun y18 => ?_)
        refine J_aload_n (pc := 117) dX8_digest_117 rfl rfl rfl ?_
        refine J_bipush (pc := 118) (v := nI 63) dX8_digest_118 (by decide) ?_
        refine J_callV (pc := 120) (as := [.int (nI 63)]) dX8_digest_120 fw_X8_sizeOf fl_X8_178 fm_X8_sizeOf fe_X8_sizeOf h19_14 (by decide) rfl rfl rfl (c_X8_sizeOf hs (d := d - 1) (Nat.le_trans (by decide) hdm) (w := w8) (n := n) (mv := mv) (rw := rw) (nx := nx) (b := b) (bt := bt) (kn := kn) (en := en) (dn := dn) (rf := rf) (kk := kk) (th := nI 0) ⟨h19_14, h20_14, h21_14, h22_14, hb_14, hbl_14, hb3_14⟩ hn1 hn2 gm gr gx 63 (by first | assumption | omega) (by first | assumption | omega) (by first | assumption | omega) (kc := 13) (ks := 2054) (Nat.le_refl _) (Nat.le_refl _)) hdp (by omega) (by omega) (st := [.long y18]) (Nat.le_of_ble_eq_true rfl) rfl (kr_I fun v19 w19 hv19 hw19 => ?_) kx_I
        obtain ⟨rw19, nx19, b19, bt19, kn19, en19, hR19, hFc19, hgrw19, hgnx19, hp19_0, hp19_1⟩ := hw19
        obtain ⟨h19_19, h20_19, h21_19, h22_19, hbb_19, hbl_19, hb3_19⟩ := hR19
        have qd19 := hFc19.2.1
        have hF19 := hF10.tr hFc19
        obtain ⟨k19, rfl, hk19⟩ := hv19
        refine J_i2l (pc := 123) dX8_digest_123 (J_absL fun y20 => ?_)
        refine J_ladd (pc := 124) dX8_digest_124 (J_absL fun y21 => ?_)
        refine J_ldc2 (pc := 125) dX8_digest_125 fk_X8_239 (J_absL fun y22 => ?_)
        refine J_lmul (pc := 128) dX8_digest_128 (J_absL fun y23 => ?_)
        refine J_aload_n (pc := 129) dX8_digest_129 rfl rfl rfl ?_
        refine J_bipush (pc := 130) (v := nI 63) dX8_digest_130 (by decide) ?_
        refine J_callV0 (pc := 132) (as := [.int (nI 63)]) dX8_digest_132 fw_X8_piecesNow fl_X8_191 fm_X8_piecesNow fe_X8_piecesNow h19_19 (by decide) rfl rfl rfl (c_X8_piecesNow hs (d := d - 1) (Nat.le_trans (by decide) hdm) (w := w19) (n := n) (mv := mv) (rw := rw19) (nx := nx19) (b := b19) (bt := bt19) (kn := kn19) (en := en19) (dn := dn) (rf := rf) (kk := kk) (th := nI 0) ⟨h19_19, h20_19, h21_19, h22_19, hbb_19, hbl_19, hb3_19⟩ hn1 hn2 gm hgrw19 hgnx19 63 (by first | assumption | omega) (kc := 0) (ks := 0)) hdp (st := [.long y23]) (Nat.le_of_ble_eq_true rfl) rfl (kr_P fun v24 hv24 => ?_) kx_I
        obtain ⟨k24, rfl, hk24⟩ := hv24
        refine J_i2l (pc := 135) dX8_digest_135 (J_absL fun y25 => ?_)
        refine J_ladd (pc := 136) dX8_digest_136 (J_absL fun y26 => ?_)
        refine J_ldc2 (pc := 137) dX8_digest_137 fk_X8_239 (J_absL fun y27 => ?_)
        refine J_lmul (pc := 140) dX8_digest_140 (J_absL fun y28 => ?_)
        refine J_aload_n (pc := 141) dX8_digest_141 rfl rfl rfl ?_
        refine J_bipush (pc := 142) (v := nI 63) dX8_digest_142 (by decide) ?_
        refine J_callV0 (pc := 144) (as := [.int (nI 63)]) dX8_digest_144 fw_X8_evenNow fl_X8_194 fm_X8_evenNow fe_X8_evenNow h19_19 (by decide) rfl rfl rfl (c_X8_evenNow_atk hs (d := d - 1) (Nat.le_trans (by decide) hdm) (w := w19) (n := n) (mv := mv) (rw := rw19) (nx := nx19) (b := b19) (bt := bt19) (kn := kn19) (en := en19) (dn := dn) (rf := rf) (kk := kk) (th := nI 0) ⟨h19_19, h20_19, h21_19, h22_19, hbb_19, hbl_19, hb3_19⟩ hn1 hn2 gm hgrw19 hgnx19 63 (by first | assumption | omega) (by first | assumption | omega) (by first | assumption | omega) (by first | assumption | omega) (kc := 0) (ks := 0)) hdp (st := [.long y28]) (Nat.le_of_ble_eq_true rfl) rfl (kr_I fun v29 w29 hv29 hw29 => ?_) kx_I
        obtain ⟨rw29, hR29, hFc29, hgrw29⟩ := hw29
        obtain ⟨h19_29, h20_29, h21_29, h22_29, hbb_29, hbl_29, hb3_29⟩ := hR29
        have hF29 := hF19.tr hFc29
        refine J_i2l (pc := 147) dX8_digest_147 (J_absL fun y30 => ?_)
        refine J_ladd (pc := 148) dX8_digest_148 (J_absL fun y31 => ?_)
        refine J_lstore_n (pc := 149) dX8_digest_149 rfl (by decide) rfl ?_
        show J X mX8_digest d (kc6 - 13) (ks7 - 2054) 150 [some (.ref 19), some (.long y31), none, some (.int (nI c3))] [] w29 _
        refine J_lload_n (pc := 150) dX8_digest_150 rfl rfl ?_
        refine J_ldc2 (pc := 151) dX8_digest_151 fk_X8_239 (J_absL fun y32 => ?_)
        refine J_lmul (pc := 154) dX8_digest_154 (J_absL fun y33 => ?_)
        refine J_aload_n (pc := 155) dX8_digest_155 rfl rfl rfl ?_
        refine J_bipush (pc := 156) (v := nI 63) dX8_digest_156 (by decide) ?_
        refine J_callV (pc := 158) (as := [.int (nI 63)]) dX8_digest_158 fw_X8_enoughNow fl_X8_224 fm_X8_enoughNow fe_X8_enoughNow h19_29 (by decide) rfl rfl rfl (c_X8_enoughNow hs (d := d - 1) (Nat.le_trans (by decide) hdm) (w := w29) (n := n) (mv := mv) (rw := rw29) (nx := nx19) (b := b19) (bt := bt19) (kn := kn19) (en := en19) (dn := dn) (rf := rf) (kk := kk) (th := nI 0) ⟨h19_29, h20_29, h21_29, h22_29, hbb_29, hbl_29, hb3_29⟩ hn1 hn2 gm hgrw29 hgnx19 63 (by first | assumption | omega) (by first | assumption | omega) (by exact Or.inr (by assumption)) (kc := 13) (ks := 2054) (Nat.le_refl _) (Nat.le_refl _)) hdp (by omega) (by omega) (st := [.long y33]) (Nat.le_of_ble_eq_true rfl) rfl (kr_I fun v34 w34 hv34 hw34 => ?_) kx_I
        obtain ⟨rw34, nx34, b34, bt34, kn34, en34, hR34, hFc34, hgrw34, hgnx34, hp34_0, hp34_1⟩ := hw34
        obtain ⟨h19_34, h20_34, h21_34, h22_34, hbb_34, hbl_34, hb3_34⟩ := hR34
        have qd34 := hFc34.2.1
        have hF34 := hF29.tr hFc34
        refine J_i2l (pc := 161) dX8_digest_161 (J_absL fun y35 => ?_)
        refine J_ladd (pc := 162) dX8_digest_162 (J_absL fun y36 => ?_)
        refine J_lstore_n (pc := 163) dX8_digest_163 rfl (by decide) rfl ?_
        show J X mX8_digest d (kc6 - 13 - 13) (ks7 - 2054 - 2054) 164 [some (.ref 19), some (.long y36), none, some (.int (nI c3))] [] w34 _
        refine J_iconst (pc := 164) (v := nI 0) dX8_digest_164 (by decide) ?_
        refine J_istore_n (pc := 165) dX8_digest_165 rfl (by decide) rfl ?_
        show J X mX8_digest d (kc6 - 13 - 13) (ks7 - 2054 - 2054) 166 [some (.ref 19), some (.long y36), none, some (.int (nI 0))] [] w34 _
        have lp166_37 : ∀ (fuel : Nat) (w38 : List jC) (rw_166 : Nat → Nat) (y1 : Int64) (c3 : Nat), (RM n mv rw_166 nx34 b34 bt34 kn34 en34 dn rf kk (nI 0) w38) → (FR b b34 w w38) → (∀ i, rw_166 i < 7) → (c3 ≤ n) → (n - c3 < fuel) → J X mX8_digest d (kc6 - 13 - 13) (ks7 - 2054 - 2054) 166 [some (.ref 19), some (.long y1), none, some (.int (nI c3))] [] w38 (pL (fun _ => True) (fun w' => ∃ (rw' : Nat → Nat), ∃ (nx' : Nat → Nat), ∃ (b' : Nat), ∃ (bt' : List Int32), ∃ (kn' : Int32), ∃ (en' : Int32), ∃ (th' : Int32), RM n mv rw' nx' b' bt' kn' en' dn rf kk th' w' ∧ FR b b' w w' ∧ (∀ i, rw' i < 7) ∧ (∀ i, nx' i < 7) ∧ KB n kn' bt')) := by
          intro fuellp166_37
          induction fuellp166_37 with
          | zero => intros; omega
          | succ fuellp166_37 ihlp166_37 =>
            intro w38 rw_166 y1 c3 hR39 hF40 gr41 hv166_0 hf42
            obtain ⟨h19_43, h20_43, h21_43, h22_43, hb_43, hbl_43, hb3_43⟩ := hR39
            refine J_iload_n (pc := 166) dX8_digest_166 rfl rfl ?_
            refine J_aload_n (pc := 167) dX8_digest_167 rfl rfl rfl ?_
            refine J_get (pc := 168) (k := 0) dX8_digest_168 kC9 (by decide) ff_X8_7 h19_43 rfl ?_
            refine J_icmp_geN (pc := 171) (tgt := 196) dX8_digest_171 (by decide) (by omega) (by omega) (fun ht44 => ?_) (fun hf45 => ?_)
            · refine J_iconst (pc := 196) (v := nI 0) dX8_digest_196 (by decide) ?_
              refine J_istore_n (pc := 197) dX8_digest_197 rfl (by decide) rfl ?_
              show J X mX8_digest d (kc6 - 13 - 13) (ks7 - 2054 - 2054) 198 [some (.ref 19), some (.long y1), none, some (.int (nI 0))] [] w38 _
              have lp198_46 : ∀ (fuel : Nat) (y1 : Int64) (c3 : Nat), (c3 ≤ 3) → (3 - c3 < fuel) → J X mX8_digest d (kc6 - 13 - 13) (ks7 - 2054 - 2054) 198 [some (.ref 19), some (.long y1), none, some (.int (nI c3))] [] w38 (pL (fun _ => True) (fun w' => ∃ (rw' : Nat → Nat), ∃ (nx' : Nat → Nat), ∃ (b' : Nat), ∃ (bt' : List Int32), ∃ (kn' : Int32), ∃ (en' : Int32), ∃ (th' : Int32), RM n mv rw' nx' b' bt' kn' en' dn rf kk th' w' ∧ FR b b' w w' ∧ (∀ i, rw' i < 7) ∧ (∀ i, nx' i < 7) ∧ KB n kn' bt')) := by
                intro fuellp198_46
                induction fuellp198_46 with
                | zero => intros; omega
                | succ fuellp198_46 ihlp198_46 =>
                  intro y1 c3 hv198_0 hf47
                  refine J_iload_n (pc := 198) dX8_digest_198 rfl rfl ?_
                  refine J_iconst (pc := 199) (v := nI 3) dX8_digest_199 (by decide) ?_
                  refine J_icmp_geN (pc := 200) (tgt := 222) dX8_digest_200 (by decide) (by omega) (by omega) (fun ht48 => ?_) (fun hf49 => ?_)
                  · refine J_lload_n (pc := 222) dX8_digest_222 rfl rfl ?_
                    refine J_ldc2 (pc := 223) dX8_digest_223 fk_X8_239 (J_absL fun y50 => ?_)
                    refine J_lmul (pc := 226) dX8_digest_226 (J_absL fun y51 => ?_)
                    refine J_aload_n (pc := 227) dX8_digest_227 rfl rfl rfl ?_
                    refine J_callV (pc := 228) (as := []) dX8_digest_228 fw_X8_isSoundNow fl_X8_233 fm_X8_isSoundNow fe_X8_isSoundNow h19_43 (by decide) rfl rfl rfl (c_X8_isSoundNow hs (d := d - 1) (Nat.le_trans (by decide) hdm) (w := w38) (n := n) (mv := mv) (rw := rw_166) (nx := nx34) (b := b34) (bt := bt34) (kn := kn34) (en := en34) (dn := dn) (rf := rf) (kk := kk) (th := nI 0) ⟨h19_43, h20_43, h21_43, h22_43, hb_43, hbl_43, hb3_43⟩ hn1 hn2 gm gr41 hgnx34 (by first | assumption | omega) (by exact Or.inr (by assumption)) (kc := 15) (ks := 6428) (Nat.le_refl _) (Nat.le_refl _)) hdp (by omega) (by omega) (st := [.long y51]) (Nat.le_of_ble_eq_true rfl) rfl (kr_I fun v52 w52 hv52 hw52 => ?_) kx_I
                    obtain ⟨rw52, nx52, b52, bt52, kn52, en52, hR52, hFc52, hgrw52, hgnx52, hp52_0⟩ := hw52
                    obtain ⟨h19_52, h20_52, h21_52, h22_52, hbb_52, hbl_52, hb3_52⟩ := hR52
                    have qd52 := hFc52.2.1
                    have hF52 := hF40.tr hFc52
                    obtain ⟨k52, rfl, hk52⟩ := hv52
                    refine J_if_eqN (pc := 231) (tgt := 238) dX8_digest_231 (by decide) (by omega) (fun ht53 => ?_) (fun hf54 => ?_)
                    · refine J_iconst (pc := 238) (v := nI 0) dX8_digest_238 (by decide) ?_
                      refine J_i2l (pc := 239) dX8_digest_239 (J_absL fun y55 => ?_)
                      refine J_ladd (pc := 240) dX8_digest_240 (J_absL fun y56 => ?_)
                      exact J_lret (pc := 241) dX8_digest_241 rfl ⟨trivial, ⟨rw52, nx52, b52, bt52, kn52, en52, nI 0, ⟨h19_52, h20_52, h21_52, h22_52, hbb_52, hbl_52, hb3_52⟩, hF52, hgrw52, hgnx52, (by first | assumption | exact Or.inr (by assumption))⟩⟩
                    · refine J_iconst (pc := 234) (v := nI 1) dX8_digest_234 (by decide) ?_
                      refine J_goto (pc := 235) (tgt := 239) dX8_digest_235 (by decide) ?_
                      refine J_i2l (pc := 239) dX8_digest_239 (J_absL fun y57 => ?_)
                      refine J_ladd (pc := 240) dX8_digest_240 (J_absL fun y58 => ?_)
                      exact J_lret (pc := 241) dX8_digest_241 rfl ⟨trivial, ⟨rw52, nx52, b52, bt52, kn52, en52, nI 0, ⟨h19_52, h20_52, h21_52, h22_52, hbb_52, hbl_52, hb3_52⟩, hF52, hgrw52, hgnx52, (by first | assumption | exact Or.inr (by assumption))⟩⟩
                  · refine J_lload_n (pc := 203) dX8_digest_203 rfl rfl ?_
                    refine J_ldc2 (pc := 204) dX8_digest_204 fk_X8_239 (J_absL fun y59 => ?_)
                    refine J_lmul (pc := 207) dX8_digest_207 (J_absL fun y60 => ?_)
                    refine J_aload_n (pc := 208) dX8_digest_208 rfl rfl rfl ?_
                    refine J_iload_n (pc := 209) dX8_digest_209 rfl rfl ?_
                    refine J_callV0 (pc := 210) (as := [.int (nI c3)]) dX8_digest_210 fw_X8_houseNow fl_X8_230 fm_X8_houseNow fe_X8_houseNow h19_43 (by decide) rfl rfl rfl (c_X8_houseNow hs (d := d - 1) (Nat.le_trans (by decide) hdm) (w := w38) (n := n) (mv := mv) (rw := rw_166) (nx := nx34) (b := b34) (bt := bt34) (kn := kn34) (en := en34) (dn := dn) (rf := rf) (kk := kk) (th := nI 0) ⟨h19_43, h20_43, h21_43, h22_43, hb_43, hbl_43, hb3_43⟩ hn1 hn2 gm gr41 hgnx34 (nI c3) (kc := 0) (ks := 0)) hdp (st := [.long y60]) (Nat.le_of_ble_eq_true rfl) rfl (kr_P fun v61 hv61 => ?_) kx_I
                    refine J_i2l (pc := 213) dX8_digest_213 (J_absL fun y62 => ?_)
                    refine J_ladd (pc := 214) dX8_digest_214 (J_absL fun y63 => ?_)
                    refine J_lstore_n (pc := 215) dX8_digest_215 rfl (by decide) rfl ?_
                    show J X mX8_digest d (kc6 - 13 - 13) (ks7 - 2054 - 2054) 216 [some (.ref 19), some (.long y63), none, some (.int (nI c3))] [] w38 _
                    refine J_iincN (pc := 216) (b := 1) dX8_digest_216 rfl (by decide) (by decide) rfl ?_
                    show J X mX8_digest d (kc6 - 13 - 13) (ks7 - 2054 - 2054) 219 [some (.ref 19), some (.long y63), none, some (.int (nI (c3 + 1)))] [] w38 _
                    refine J_goto (pc := 219) (tgt := 198) dX8_digest_219 (by decide) ?_
                    exact J_sub (L' := [some (.ref 19), some (.long y63), none, some (.int (nI (c3 + 1)))]) ⟨rfl, ⟨rfl, ⟨rfl, trivial⟩⟩⟩ (ihlp198_46 y63 (c3 + 1) (by first | assumption | omega) (by omega))
              exact J_sub (L' := [some (.ref 19), some (.long y1), none, some (.int (nI 0))]) ⟨rfl, ⟨rfl, ⟨rfl, trivial⟩⟩⟩ (lp198_46 _ y1 0 (by first | assumption | omega) (Nat.lt_succ_self _))
            · refine J_lload_n (pc := 174) dX8_digest_174 rfl rfl ?_
              refine J_ldc2 (pc := 175) dX8_digest_175 fk_X8_239 (J_absL fun y64 => ?_)
              refine J_lmul (pc := 178) dX8_digest_178 (J_absL fun y65 => ?_)
              refine J_aload_n (pc := 179) dX8_digest_179 rfl rfl rfl ?_
              refine J_bipush (pc := 180) (v := nI 63) dX8_digest_180 (by decide) ?_
              refine J_iconst (pc := 182) (v := nI 0) dX8_digest_182 (by decide) ?_
              refine J_iload_n (pc := 183) dX8_digest_183 rfl rfl ?_
              refine J_callV0 (pc := 184) (as := [.int (nI 63), .int (nI 0), .int (nI c3)]) dX8_digest_184 fw_X8_reachNow fl_X8_181 fm_X8_reachNow fe_X8_reachNow h19_43 (by decide) rfl rfl rfl (c_X8_reachNow_atk hs (d := d - 1) (Nat.le_trans (by decide) hdm) (w := w38) (n := n) (mv := mv) (rw := rw_166) (nx := nx34) (b := b34) (bt := bt34) (kn := kn34) (en := en34) (dn := dn) (rf := rf) (kk := kk) (th := nI 0) ⟨h19_43, h20_43, h21_43, h22_43, hb_43, hbl_43, hb3_43⟩ hn1 hn2 gm gr41 hgnx34 63 0 c3 (by first | assumption | omega) (by first | assumption | omega) (by first | assumption | omega) (by first | assumption | omega) (by first | assumption | omega) (by first | assumption | omega) (kc := 0) (ks := 0)) hdp (st := [.long y65]) (Nat.le_of_ble_eq_true rfl) rfl (kr_I fun v66 w66 hv66 hw66 => ?_) kx_I
              obtain ⟨rw66, hR66, hFc66, hgrw66⟩ := hw66
              obtain ⟨h19_66, h20_66, h21_66, h22_66, hbb_66, hbl_66, hb3_66⟩ := hR66
              have hF66 := hF40.tr hFc66
              refine J_i2l (pc := 187) dX8_digest_187 (J_absL fun y67 => ?_)
              refine J_ladd (pc := 188) dX8_digest_188 (J_absL fun y68 => ?_)
              refine J_lstore_n (pc := 189) dX8_digest_189 rfl (by decide) rfl ?_
              show J X mX8_digest d (kc6 - 13 - 13) (ks7 - 2054 - 2054) 190 [some (.ref 19), some (.long y68), none, some (.int (nI c3))] [] w66 _
              refine J_iincN (pc := 190) (b := 1) dX8_digest_190 rfl (by decide) (by decide) rfl ?_
              show J X mX8_digest d (kc6 - 13 - 13) (ks7 - 2054 - 2054) 193 [some (.ref 19), some (.long y68), none, some (.int (nI (c3 + 1)))] [] w66 _
              refine J_goto (pc := 193) (tgt := 166) dX8_digest_193 (by decide) ?_
              exact J_sub (L' := [some (.ref 19), some (.long y68), none, some (.int (nI (c3 + 1)))]) ⟨rfl, ⟨rfl, ⟨rfl, trivial⟩⟩⟩ (ihlp166_37 w66 rw66 y68 (c3 + 1) ⟨h19_66, h20_66, h21_66, h22_66, hbb_66, hbl_66, hb3_66⟩ hF66 hgrw66 (by first | assumption | omega) (by omega))
        exact J_sub (L' := [some (.ref 19), some (.long y36), none, some (.int (nI 0))]) ⟨rfl, ⟨rfl, ⟨rfl, trivial⟩⟩⟩ (lp166_37 _ w34 rw34 y36 0 ⟨h19_34, h20_34, h21_34, h22_34, hbb_34, hbl_34, hb3_34⟩ hF34 hgrw34 (by first | assumption | omega) (Nat.lt_succ_self _))
      · refine J_lload_n (pc := 23) dX8_digest_23 rfl rfl ?_
        refine J_ldc2 (pc := 24) dX8_digest_24 fk_X8_239 (J_absL fun y69 => ?_)
        refine J_lmul (pc := 27) dX8_digest_27 (J_absL fun y70 => ?_)
        refine J_aload_n (pc := 28) dX8_digest_28 rfl rfl rfl ?_
        refine J_aload_n (pc := 29) dX8_digest_29 rfl rfl rfl ?_
        refine J_get (pc := 30) (k := 1) dX8_digest_30 kC9 (by decide) ff_X8_13 h19_14 rfl ?_
        refine J_iload_n (pc := 33) dX8_digest_33 rfl rfl ?_
        refine J_bipush (pc := 34) (v := nI 7) dX8_digest_34 (by decide) ?_
        refine J_imulN (pc := 36) dX8_digest_36 ?_
        refine J_callV0 (pc := 37) (as := [.ref 20, .int (nI (c3 * 7))]) dX8_digest_37 fw_X8_numberOf fl_X8_45 fm_X8_numberOf fe_X8_numberOf h19_14 (by decide) rfl rfl rfl (c_X8_numberOf_at20 hs (d := d - 1) (Nat.le_trans (by decide) hdm) (w := w8) (n := n) (mv := mv) (rw := rw) (nx := nx) (b := b) (bt := bt) (kn := kn) (en := en) (dn := dn) (rf := rf) (kk := kk) (th := nI 0) ⟨h19_14, h20_14, h21_14, h22_14, hb_14, hbl_14, hb3_14⟩ hn1 hn2 gm gr gx (c3 * 7) (by first | assumption | omega) (kc := 0) (ks := 0)) hdp (st := [.long y70]) (Nat.le_of_ble_eq_true rfl) rfl (kr_P fun v71 hv71 => ?_) kx_I
        subst hv71
        have hq72 := nuF_b mv (c3 * 7) n
        refine J_i2l (pc := 40) dX8_digest_40 (J_absL fun y73 => ?_)
        refine J_ladd (pc := 41) dX8_digest_41 (J_absL fun y74 => ?_)
        refine J_ldc2 (pc := 42) dX8_digest_42 fk_X8_239 (J_absL fun y75 => ?_)
        refine J_lmul (pc := 45) dX8_digest_45 (J_absL fun y76 => ?_)
        refine J_aload_n (pc := 46) dX8_digest_46 rfl rfl rfl ?_
        refine J_aload_n (pc := 47) dX8_digest_47 rfl rfl rfl ?_
        refine J_get (pc := 48) (k := 1) dX8_digest_48 kC9 (by decide) ff_X8_13 h19_14 rfl ?_
        refine J_iload_n (pc := 51) dX8_digest_51 rfl rfl ?_
        refine J_bipush (pc := 52) (v := nI 7) dX8_digest_52 (by decide) ?_
        refine J_imulN (pc := 54) dX8_digest_54 ?_
        refine J_callV0 (pc := 55) (as := [.ref 20, .int (nI (c3 * 7))]) dX8_digest_55 fw_X8_orderOf fl_X8_172 fm_X8_orderOf fe_X8_orderOf h19_14 (by decide) rfl rfl rfl (c_X8_orderOf_at20 hs (d := d - 1) (Nat.le_trans (by decide) hdm) (w := w8) (n := n) (mv := mv) (rw := rw) (nx := nx) (b := b) (bt := bt) (kn := kn) (en := en) (dn := dn) (rf := rf) (kk := kk) (th := nI 0) ⟨h19_14, h20_14, h21_14, h22_14, hb_14, hbl_14, hb3_14⟩ hn1 hn2 gm gr gx (c3 * 7) (by first | assumption | omega) (by exact hy0 c3 (by omega)) (kc := 0) (ks := 0)) hdp (st := [.long y76]) (Nat.le_of_ble_eq_true rfl) rfl (kr_P fun v77 hv77 => ?_) kx_I
        obtain ⟨k77, rfl, hk77⟩ := hv77
        refine J_i2l (pc := 58) dX8_digest_58 (J_absL fun y78 => ?_)
        refine J_ladd (pc := 59) dX8_digest_59 (J_absL fun y79 => ?_)
        refine J_lstore_n (pc := 60) dX8_digest_60 rfl (by decide) rfl ?_
        show J X mX8_digest d kc6 ks7 61 [some (.ref 19), some (.long y79), none, some (.int (nI c3))] [] w8 _
        refine J_lload_n (pc := 61) dX8_digest_61 rfl rfl ?_
        refine J_ldc2 (pc := 62) dX8_digest_62 fk_X8_239 (J_absL fun y80 => ?_)
        refine J_lmul (pc := 65) dX8_digest_65 (J_absL fun y81 => ?_)
        refine J_aload_n (pc := 66) dX8_digest_66 rfl rfl rfl ?_
        refine J_aload_n (pc := 67) dX8_digest_67 rfl rfl rfl ?_
        refine J_get (pc := 68) (k := 1) dX8_digest_68 kC9 (by decide) ff_X8_13 h19_14 rfl ?_
        refine J_iload_n (pc := 71) dX8_digest_71 rfl rfl ?_
        refine J_bipush (pc := 72) (v := nI 7) dX8_digest_72 (by decide) ?_
        refine J_imulN (pc := 74) dX8_digest_74 ?_
        refine J_callV0 (pc := 75) (as := [.ref 20, .int (nI (c3 * 7))]) dX8_digest_75 fw_X8_signOf fl_X8_115 fm_X8_signOf fe_X8_signOf h19_14 (by decide) rfl rfl rfl (c_X8_signOf_at20 hs (d := d - 1) (Nat.le_trans (by decide) hdm) (w := w8) (n := n) (mv := mv) (rw := rw) (nx := nx) (b := b) (bt := bt) (kn := kn) (en := en) (dn := dn) (rf := rf) (kk := kk) (th := nI 0) ⟨h19_14, h20_14, h21_14, h22_14, hb_14, hbl_14, hb3_14⟩ hn1 hn2 gm gr gx (c3 * 7) (by first | assumption | omega) (kc := 0) (ks := 0)) hdp (st := [.long y81]) (Nat.le_of_ble_eq_true rfl) rfl (kr_P fun v82 hv82 => ?_) kx_I
        refine J_i2l (pc := 78) dX8_digest_78 (J_absL fun y83 => ?_)
        refine J_ladd (pc := 79) dX8_digest_79 (J_absL fun y84 => ?_)
        refine J_ldc2 (pc := 80) dX8_digest_80 fk_X8_239 (J_absL fun y85 => ?_)
        refine J_lmul (pc := 83) dX8_digest_83 (J_absL fun y86 => ?_)
        refine J_aload_n (pc := 84) dX8_digest_84 rfl rfl rfl ?_
        refine J_iload_n (pc := 85) dX8_digest_85 rfl rfl ?_
        refine J_callV0 (pc := 86) (as := [.int (nI c3)]) dX8_digest_86 fw_X8_staysNow fl_X8_175 fm_X8_staysNow fe_X8_staysNow h19_14 (by decide) rfl rfl rfl (c_X8_staysNow hs (d := d - 1) (Nat.le_trans (by decide) hdm) (w := w8) (n := n) (mv := mv) (rw := rw) (nx := nx) (b := b) (bt := bt) (kn := kn) (en := en) (dn := dn) (rf := rf) (kk := kk) (th := nI 0) ⟨h19_14, h20_14, h21_14, h22_14, hb_14, hbl_14, hb3_14⟩ hn1 hn2 gm gr gx c3 (by first | assumption | omega) (kc := 0) (ks := 0)) hdp (st := [.long y86]) (Nat.le_of_ble_eq_true rfl) rfl (kr_P fun v87 hv87 => ?_) kx_I
        refine J_i2l (pc := 89) dX8_digest_89 (J_absL fun y88 => ?_)
        refine J_ladd (pc := 90) dX8_digest_90 (J_absL fun y89 => ?_)
        refine J_ldc2 (pc := 91) dX8_digest_91 fk_X8_239 (J_absL fun y90 => ?_)
        refine J_lmul (pc := 94) dX8_digest_94 (J_absL fun y91 => ?_)
        refine J_aload_n (pc := 95) dX8_digest_95 rfl rfl rfl ?_
        refine J_iload_n (pc := 96) dX8_digest_96 rfl rfl ?_
        refine J_callV (pc := 97) (as := [.int (nI c3)]) dX8_digest_97 fw_X8_ringsNow fl_X8_168 fm_X8_ringsNow fe_X8_ringsNow h19_14 (by decide) rfl rfl rfl (c_X8_ringsNow hs (d := d - 1) (by omega) hXO (w := w8) (n := n) (mv := mv) (rw := rw) (nx := nx) (b := b) (bt := bt) (kn := kn) (en := en) (dn := dn) (rf := rf) (kk := kk) (th := nI 0) ⟨h19_14, h20_14, h21_14, h22_14, hb_14, hbl_14, hb3_14⟩ hn1 hn2 gm gr gx c3 (by omega) (by assumption) (kc := 40) (ks := 1500) (Nat.le_refl _) (Nat.le_refl _)) (by omega) (by omega) (by omega) (st := [.long y91]) (Nat.le_of_ble_eq_true rfl) rfl (kr_A fun r92 w92 hw92 => ?_) kx_A
        obtain ⟨hR92, hFc92, vz92, zs92, hco92, hcn92, hyl92⟩ := hw92
        obtain ⟨h19_92, h20_92, h21_92, h22_92, hbb_92, hbl_92, hb3_92⟩ := hR92
        have hF92 := hF10.tr hFc92
        refine J_callV0 (pc := 100) (as := []) dX8_digest_100 fw_J0_length_8abf5 fl_X8_241 fm_J0_length_8abf5 fe_J0_length_8abf5 hco92 (by decide) rfl rfl rfl (c_J0_length_8abf5_ats hs (d := d - 1) (by omega) (w := w92) r92 vz92 zs92 hco92 hcn92 (by omega) (kc := 0) (ks := 0)) (by omega) (st := [.long y91]) (Nat.le_of_ble_eq_true rfl) rfl (kr_P fun v93 hv93 => ?_) kx_I
        refine J_i2l (pc := 103) dX8_digest_103 (J_absL fun y94 => ?_)
        refine J_ladd (pc := 104) dX8_digest_104 (J_absL fun y95 => ?_)
        refine J_lstore_n (pc := 105) dX8_digest_105 rfl (by decide) rfl ?_
        show J X mX8_digest d (kc6 - 40) (ks7 - 1500) 106 [some (.ref 19), some (.long y95), none, some (.int (nI c3))] [] w92 _
        refine J_iincN (pc := 106) (b := 1) dX8_digest_106 rfl (by decide) (by decide) rfl ?_
        show J X mX8_digest d (kc6 - 40) (ks7 - 1500) 109 [some (.ref 19), some (.long y95), none, some (.int (nI (c3 + 1)))] [] w92 _
        refine J_goto (pc := 109) (tgt := 17) dX8_digest_109 (by decide) ?_
        exact J_sub (L' := [some (.ref 19), some (.long y95), none, some (.int (nI (c3 + 1)))]) ⟨rfl, ⟨rfl, ⟨rfl, trivial⟩⟩⟩ (ihlp17_5 _ _ w92 y95 (c3 + 1) ⟨h19_92, h20_92, h21_92, h22_92, hbb_92, hbl_92, hb3_92⟩ hF92 (by omega) (by omega) (by first | assumption | omega) (by omega))
  exact J_sub (L' := [some (.ref 19), some (.long y4), none, some (.int (nI 0))]) ⟨rfl, ⟨rfl, ⟨rfl, trivial⟩⟩⟩ (lp17_5 _ _ _ w1 y4 0 ⟨h19_1, h20_1, h21_1, h22_1, hb_1, hbl, hb3⟩ hF1 (by omega) (by omega) (by first | assumption | omega) (Nat.lt_succ_self _))
