/-! texts of the reference -/
set_option maxRecDepth 100000 in
set_option maxHeartbeats 40000000 in
theorem c_X8_ringsNow {X : jX} (hs : X.1.stackTraces = false) {d : Nat} (hd : 14 ≤ d) (hXO : XO X) {n : Nat} {mv rw nx : Nat → Nat} {b : Nat} {bt : List Int32} {kn en dn rf kk th : Int32} {w : List jC} (hR : RM n mv rw nx b bt kn en dn rf kk th w) (hn1 : 2 ≤ n) (hn2 : n ≤ 7) (gm : ∀ i, mv i < 7) (gr : ∀ i, rw i < 7) (gx : ∀ i, nx i < 7) (a : Nat) (hy0 : a < 6) (hy1 : PM n mv) {kc ks : Nat} (hkc : 40 ≤ kc) (hks : 1500 ≤ ks) : jMet X mX8_ringsNow d kc ks [.ref 19, .int (nI a)] w (pA (fun r w' => RM n mv rw nx b bt kn en dn rf kk th w' ∧ FR b b w w' ∧ ∃ (vz : Nat) (zs : List Int32), w'[r]? = some (.inr (0, [.ref vz, .int (nI 0), .int (nI 0), .int (nI 0)])) ∧ w'[vz]? = some (.inl (1, zs)) ∧ zs.length ≤ 270)) := by
  refine jMet_of hs (by decide +kernel) (Nat.le_of_ble_eq_true rfl) (L := [some (.ref 19), some (.int (nI a)), none, none, none]) rfl ?_
  have hdm : 13 ≤ d - 1 := by omega
  have hdp : d - 1 + 1 ≤ d := by omega
  have hfc := fc_7 hn2
  have hfp := fc_pos n
  obtain ⟨h19, h20, h21, h22, hbb, hbl, hb3⟩ := hR
  have hF : FR b b w w := FR.rf
  have q191 := gl h19
  have q201 := gl h20
  have q211 := gl h21
  have q221 := gl h22
  have qb1 := gl hbb
  have qF1 := hF.1
  refine J_newO (pc := 0) (fs := [.null, .int (nI 0), .int (nI 0), .int (nI 0)]) dX8_ringsNow_0 kC1 fc_X8_146 fi_J4 fz_J4 df_J4 (by omega) (by omega) (fun a0 w1 ha1 hln1 hc1 hne1 => ?_)
  have h19_1 := (hne1 19 (by omega)).trans h19
  have h20_1 := (hne1 20 (by omega)).trans h20
  have h21_1 := (hne1 21 (by omega)).trans h21
  have h22_1 := (hne1 22 (by omega)).trans h22
  have hb_1 := (hne1 _ (by omega)).trans hbb
  have hF1 := hF.pu ha1 hln1 hne1
  have qa1 : 23 ≤ a0 := by omega
  have qb1 : a0 ≠ b := by omega
  have qw1 : w.length ≤ a0 := by omega
  refine J_dup (pc := 3) dX8_ringsNow_3 rfl ?_
  refine J_callI (pc := 4) (as := []) dX8_ringsNow_4 fw_J4_init_da8c8 fl_X8_148 fm_J4_init_da8c8 rfl rfl rfl (c_J4_init_da8c8 hs (d := d - 1) (by omega) (w := w1) a0 hc1 (kc := 1) (ks := 16) (Nat.le_refl _) (Nat.le_refl _)) (by omega) (by omega) (by omega) (st := [.ref a0]) (Nat.le_of_ble_eq_true rfl) rfl (kr_V fun w2 hw2 => ?_) kx_V
  obtain ⟨v2', ys2, hB2, hFc2, hvv2⟩ := hw2
  have hgl2 := hFc2.1
  have hbl2 := hB2.2.2.2.2.1
  have h19_2 := (hFc2.2 19 (by omega) (by omega) (gl h19_1)).trans h19_1
  have h20_2 := (hFc2.2 20 (by omega) (by omega) (gl h20_1)).trans h20_1
  have h21_2 := (hFc2.2 21 (by omega) (by omega) (gl h21_1)).trans h21_1
  have h22_2 := (hFc2.2 22 (by omega) (by omega) (gl h22_1)).trans h22_1
  have hbb_2 := (hFc2.2 b (by omega) (by omega) (gl hb_1)).trans hb_1
  have hF2 := hF1.sb hFc2 (by omega) (by omega)
  refine J_astore_n (pc := 7) dX8_ringsNow_7 rfl (by decide) rfl rfl ?_
  show J X mX8_ringsNow d (kc - 1 - 1) (ks - 4 - 16) 8 [some (.ref 19), some (.int (nI a)), some (.ref a0), none, none] [] w2 _
  refine J_iconst (pc := 8) (v := nI 1) dX8_ringsNow_8 (by decide) ?_
  refine J_istore_n (pc := 9) dX8_ringsNow_9 rfl (by decide) rfl ?_
  show J X mX8_ringsNow d (kc - 1 - 1) (ks - 4 - 16) 10 [some (.ref 19), some (.int (nI a)), some (.ref a0), some (.int (nI 1)), none] [] w2 _
  have lp10_3 : ∀ (fuel : Nat) (kc4 ks5 : Nat) (w6 : List jC) (v_10 k_10 : Nat) (b_10 : List Int32) (c3 : Nat), (RM n mv rw nx b bt kn en dn rf kk th w6) → (FR b b w w6) → (SBp a0 v_10 (nI 0) k_10 b_10 w6) → (w.length ≤ v_10) → ((620 - b_10.length) / 18 ≤ kc4) → (1240 - 2 * b_10.length ≤ ks5) → (1 ≤ c3) → (c3 ≤ n + 1) → (k_10 ≤ 14 * (c3 - 1)) → (n + 1 - c3 < fuel) → J X mX8_ringsNow d kc4 ks5 10 [some (.ref 19), some (.int (nI a)), some (.ref a0), some (.int (nI c3)), none] [] w6 (pA (fun r w' => RM n mv rw nx b bt kn en dn rf kk th w' ∧ FR b b w w' ∧ ∃ (vz : Nat) (zs : List Int32), w'[r]? = some (.inr (0, [.ref vz, .int (nI 0), .int (nI 0), .int (nI 0)])) ∧ w'[vz]? = some (.inl (1, zs)) ∧ zs.length ≤ 270)) := by
    intro fuellp10_3
    induction fuellp10_3 with
    | zero => intros; omega
    | succ fuellp10_3 ihlp10_3 =>
      intro kc4 ks5 w6 v_10 k_10 b_10 c3 hR7 hF8 hB9 hv10 hr11 hr12 hv10_0 hv10_1 hv10_2 hf13
      obtain ⟨h19_14, h20_14, h21_14, h22_14, hb_14, hbl_14, hb3_14⟩ := hR7
      refine J_iload_n (pc := 10) dX8_ringsNow_10 rfl rfl ?_
      refine J_aload_n (pc := 11) dX8_ringsNow_11 rfl rfl rfl ?_
      refine J_get (pc := 12) (k := 0) dX8_ringsNow_12 kC9 (by decide) ff_X8_7 h19_14 rfl ?_
      refine J_icmp_gtN (pc := 15) (tgt := 66) dX8_ringsNow_15 (by decide) (by omega) (by omega) (fun ht15 => ?_) (fun hf16 => ?_)
      · refine J_aload_n (pc := 66) dX8_ringsNow_66 rfl rfl rfl ?_
        have hB117 := hB9.2.2.2.1
        have hB317 := hB9.2.2.2.2.2
        refine J_callV (pc := 67) (as := []) dX8_ringsNow_67 fw_J4_toString_0e30d fl_X8_158 fm_J4_toString_0e30d fe_J4_toString_0e30d hB9.1 (by decide) rfl rfl rfl (c_J4_toString_0e30d hs (d := d - 1) (by omega) (a := a0) (v := v_10) (c := k_10) (bs := b_10) (w := w6) hB9 (kc := 2) (ks := k_10 + 4) (Nat.le_refl _) (Nat.le_refl _)) (by omega) (by omega) (by omega) (st := []) (Nat.le_of_ble_eq_true rfl) rfl (kr_A fun r17 w17 hw17 => ?_) kx_A
        obtain ⟨hra17, hln17, hne17, vz17, zs17, hco17, hcn17, hyl17⟩ := hw17
        have h19_17 := (hne17 19 (gl h19_14)).trans h19_14
        have h20_17 := (hne17 20 (gl h20_14)).trans h20_14
        have h21_17 := (hne17 21 (gl h21_14)).trans h21_14
        have h22_17 := (hne17 22 (gl h22_14)).trans h22_14
        have hbb_17 := (hne17 b (gl hb_14)).trans hb_14
        have hF17 := hF8.gr hln17 hne17
        exact J_aret (pc := 70) dX8_ringsNow_70 rfl rfl rfl ⟨⟨h19_17, h20_17, h21_17, h22_17, hbb_17, hbl_14, hb3_14⟩, hF17, vz17, zs17, hco17, hcn17, by omega⟩
      · refine J_aload_n (pc := 18) dX8_ringsNow_18 rfl rfl rfl ?_
        refine J_iload_n (pc := 19) dX8_ringsNow_19 rfl rfl ?_
        refine J_iload_n (pc := 20) dX8_ringsNow_20 rfl rfl ?_
        refine J_callV0 (pc := 21) (as := [.int (nI a), .int (nI c3)]) dX8_ringsNow_21 fw_X8_longOnes fl_X8_162 fm_X8_longOnes fe_X8_longOnes h19_14 (by decide) rfl rfl rfl (c_X8_longOnes hs (d := d - 1) (Nat.le_trans (by decide) hdm) (w := w6) (n := n) (mv := mv) (rw := rw) (nx := nx) (b := b) (bt := bt) (kn := kn) (en := en) (dn := dn) (rf := rf) (kk := kk) (th := th) ⟨h19_14, h20_14, h21_14, h22_14, hb_14, hbl_14, hb3_14⟩ hn1 hn2 gm gr gx a c3 (by first | assumption | omega) (by first | assumption | omega) (by first | assumption | omega) (by first | assumption | omega) (kc := 0) (ks := 0)) hdp (st := []) (Nat.le_of_ble_eq_true rfl) rfl (kr_P fun v18 hv18 => ?_) kx_I
        obtain ⟨k18, rfl, hk18⟩ := hv18
        refine J_istore (pc := 24) dX8_ringsNow_24 (by decide) rfl ?_
        show J X mX8_ringsNow d kc4 ks5 26 [some (.ref 19), some (.int (nI a)), some (.ref a0), some (.int (nI c3)), some (.int (nI k18))] [] w6 _
        have lp26_19 : ∀ (fuel : Nat) (kc20 ks21 : Nat) (w22 : List jC) (v_26 k_26 : Nat) (b_26 : List Int32) (c4 : Nat), (RM n mv rw nx b bt kn en dn rf kk th w22) → (FR b b w w22) → (SBp a0 v_26 (nI 0) k_26 b_26 w22) → (w.length ≤ v_26) → ((620 - b_26.length) / 18 ≤ kc20) → (1240 - 2 * b_26.length ≤ ks21) → (c4 ≤ 7) → (k_26 + 2 * c4 ≤ 14 * c3) → (c4 < fuel) → J X mX8_ringsNow d kc20 ks21 26 [some (.ref 19), some (.int (nI a)), some (.ref a0), some (.int (nI c3)), some (.int (nI c4))] [] w22 (pA (fun r w' => RM n mv rw nx b bt kn en dn rf kk th w' ∧ FR b b w w' ∧ ∃ (vz : Nat) (zs : List Int32), w'[r]? = some (.inr (0, [.ref vz, .int (nI 0), .int (nI 0), .int (nI 0)])) ∧ w'[vz]? = some (.inl (1, zs)) ∧ zs.length ≤ 270)) := by
          intro fuellp26_19
          induction fuellp26_19 with
          | zero => intros; omega
          | succ fuellp26_19 ihlp26_19 =>
            intro kc20 ks21 w22 v_26 k_26 b_26 c4 hR23 hF24 hB25 hv26 hr27 hr28 hv26_0 hv26_1 hf29
            obtain ⟨h19_30, h20_30, h21_30, h22_30, hb_30, hbl_30, hb3_30⟩ := hR23
            refine J_iload (pc := 26) dX8_ringsNow_26 rfl ?_
            refine J_if_leN (pc := 28) (tgt := 60) dX8_ringsNow_28 (by decide) (by omega) (fun ht31 => ?_) (fun hf32 => ?_)
            · refine J_iincN (pc := 60) (b := 1) dX8_ringsNow_60 rfl (by decide) (by decide) rfl ?_
              show J X mX8_ringsNow d kc20 ks21 63 [some (.ref 19), some (.int (nI a)), some (.ref a0), some (.int (nI (c3 + 1))), some (.int (nI c4))] [] w22 _
              refine J_goto (pc := 63) (tgt := 10) dX8_ringsNow_63 (by decide) ?_
              exact J_sub (L' := [some (.ref 19), some (.int (nI a)), some (.ref a0), some (.int (nI (c3 + 1))), none]) ⟨rfl, ⟨rfl, ⟨rfl, ⟨rfl, trivial⟩⟩⟩⟩ (ihlp10_3 _ _ w22 v_26 k_26 b_26 (c3 + 1) ⟨h19_30, h20_30, h21_30, h22_30, hb_30, hbl_30, hb3_30⟩ hF24 hB25 (by omega) (by omega) (by omega) (by first | assumption | omega) (by first | assumption | omega) (by first | assumption | omega) (by omega))
            · refine J_aload_n (pc := 31) dX8_ringsNow_31 rfl rfl rfl ?_
              refine J_aload_n (pc := 32) dX8_ringsNow_32 rfl rfl rfl ?_
              refine J_callV0 (pc := 33) (as := []) dX8_ringsNow_33 fw_J4_length_8abf5 fl_X8_165 fm_J4_length_8abf5 fe_J4_length_8abf5 hB25.1 (by decide) rfl rfl rfl (c_J4_length_8abf5 hs (d := d - 1) (by omega) (a := a0) (v := v_26) (c := k_26) (bs := b_26) (w := w22) hB25 (kc := 0) (ks := 0)) (by omega) (st := [.ref a0]) (Nat.le_of_ble_eq_true rfl) rfl (kr_P fun v33 hv33 => ?_) kx_I
              subst hv33
              have hB133 := hB25.2.2.2.1
              have hB333 := hB25.2.2.2.2.2
              refine J_if_neN (pc := 36) (tgt := 44) dX8_ringsNow_36 (by decide) (by omega) (fun ht34 => ?_) (fun hf35 => ?_)
              · refine J_ldcS (pc := 44) (a := 6) (tx := " ") dX8_ringsNow_44 (List.mem_cons_of_mem _ List.mem_cons_self) ?_
                obtain ⟨os36, t36, z36, ho136, ho236, ho336, ho436⟩ := hXO.2.2.2
                have hgf38 := gL_d (k_26 + os36.length) b_26.length
                have hB137 := hB25.2.2.2.1
                have hB237 := hB25.2.2.2.2.1
                have hB337 := hB25.2.2.2.2.2
                refine J_callV (pc := 46) (as := [.retAddr 6]) dX8_ringsNow_46 fw_J4_append_15ec4 fl_X8_151 fm_J4_append_15ec4 fe_J4_append_15ec4 hB25.1 (by decide) rfl rfl rfl (c_J4_append_15ec4 hs (d := d - 1) (by omega) (a := a0) (v := v_26) (c := k_26) (bs := b_26) (w := w22) hB25 6 t36 z36 os36 ho136 ho236 ho436 (by omega) (by omega) (kc := ((gL (k_26 + os36.length) b_26.length - b_26.length) / 18)) (ks := (2 * (gL (k_26 + os36.length) b_26.length - b_26.length))) (Nat.le_refl _) (Nat.le_refl _)) (by omega) (by omega) (by omega) (st := []) (Nat.le_of_ble_eq_true rfl) rfl (kr_A fun r37 w37 hw37 => ?_) kx_A
                obtain ⟨hra37, v37', ys37, hB37, hFc37, hvv37, hp37⟩ := hw37
                obtain rfl := hra37.symm
                have hgl37 := hFc37.1
                have hB437 := hB37.2.2.2.1
                have hB537 := hB37.2.2.2.2.2
                have hB637 := hB37.2.2.2.2.1
                have h19_37 := (hFc37.2 19 (by omega) (by omega) (gl h19_30)).trans h19_30
                have h20_37 := (hFc37.2 20 (by omega) (by omega) (gl h20_30)).trans h20_30
                have h21_37 := (hFc37.2 21 (by omega) (by omega) (gl h21_30)).trans h21_30
                have h22_37 := (hFc37.2 22 (by omega) (by omega) (gl h22_30)).trans h22_30
                have hbb_37 := (hFc37.2 b (by omega) (by omega) (gl hb_30)).trans hb_30
                have hF37 := hF24.sb hFc37 (by omega) (by omega)
                refine J_iload_n (pc := 49) dX8_ringsNow_49 rfl rfl ?_
                have hgf40 := gL_d ((k_26 + os36.length) + dgs c3) ys37.length
                have hgf41 := dgs_le c3
                have hgf42 := dgs_1 (x := c3) (by omega)
                have hB139 := hB37.2.2.2.1
                have hB239 := hB37.2.2.2.2.1
                have hB339 := hB37.2.2.2.2.2
                refine J_callV (pc := 50) (as := [.int (nI c3)]) dX8_ringsNow_50 fw_J4_append_bf812 fl_X8_155 fm_J4_append_bf812 fe_J4_append_bf812 hB37.1 (by decide) rfl rfl rfl (c_J4_append_bf812 hs (d := d - 1) (by omega) hXO (a := a0) (v := v37') (c := k_26 + os36.length) (bs := ys37) (w := w37) hB37 c3 (by omega) (by omega) (kc := ((gL ((k_26 + os36.length) + dgs c3) ys37.length - ys37.length) / 18)) (ks := (2 * (gL ((k_26 + os36.length) + dgs c3) ys37.length - ys37.length))) (Nat.le_refl _) (Nat.le_refl _)) (by omega) (by omega) (by omega) (st := []) (Nat.le_of_ble_eq_true rfl) rfl (kr_A fun r39 w39 hw39 => ?_) kx_A
                obtain ⟨hra39, v39', ys39, hB39, hFc39, hvv39, hp39⟩ := hw39
                obtain rfl := hra39.symm
                have hgl39 := hFc39.1
                have hB439 := hB39.2.2.2.1
                have hB539 := hB39.2.2.2.2.2
                have hB639 := hB39.2.2.2.2.1
                have h19_39 := (hFc39.2 19 (by omega) (by omega) (gl h19_37)).trans h19_37
                have h20_39 := (hFc39.2 20 (by omega) (by omega) (gl h20_37)).trans h20_37
                have h21_39 := (hFc39.2 21 (by omega) (by omega) (gl h21_37)).trans h21_37
                have h22_39 := (hFc39.2 22 (by omega) (by omega) (gl h22_37)).trans h22_37
                have hbb_39 := (hFc39.2 b (by omega) (by omega) (gl hbb_37)).trans hbb_37
                have hF39 := hF37.sb hFc39 (by omega) (by omega)
                refine J_pop (pc := 53) dX8_ringsNow_53 rfl ?_
                refine J_iincM (pc := 54) dX8_ringsNow_54 rfl (by omega) (by decide) rfl ?_
                show J X mX8_ringsNow d (kc20 - ((gL (k_26 + os36.length) b_26.length - b_26.length) / 18) - ((gL ((k_26 + os36.length) + dgs c3) ys37.length - ys37.length) / 18)) (ks21 - (2 * (gL (k_26 + os36.length) b_26.length - b_26.length)) - (2 * (gL ((k_26 + os36.length) + dgs c3) ys37.length - ys37.length))) 57 [some (.ref 19), some (.int (nI a)), some (.ref a0), some (.int (nI c3)), some (.int (nI (c4 - 1)))] [] w39 _
                refine J_goto (pc := 57) (tgt := 26) dX8_ringsNow_57 (by decide) ?_
                exact J_sub (L' := [some (.ref 19), some (.int (nI a)), some (.ref a0), some (.int (nI c3)), some (.int (nI (c4 - 1)))]) ⟨rfl, ⟨rfl, ⟨rfl, ⟨rfl, ⟨rfl, trivial⟩⟩⟩⟩⟩ (ihlp26_19 _ _ w39 v39' (k_26 + os36.length + dgs c3) ys39 (c4 - 1) ⟨h19_39, h20_39, h21_39, h22_39, hbb_39, hbl_30, hb3_30⟩ hF39 hB39 (by omega) (by omega) (by omega) (by first | assumption | omega) (by first | assumption | omega) (by omega))
              · refine J_ldcS (pc := 39) (a := 5) (tx := "") dX8_ringsNow_39 List.mem_cons_self ?_
                refine J_goto (pc := 41) (tgt := 46) dX8_ringsNow_41 (by decide) ?_
                obtain ⟨os43, t43, z43, ho143, ho243, ho343, ho443⟩ := hXO.2.2.1
                have hgf45 := gL_d (k_26 + os43.length) b_26.length
                have hB144 := hB25.2.2.2.1
                have hB244 := hB25.2.2.2.2.1
                have hB344 := hB25.2.2.2.2.2
                refine J_callV (pc := 46) (as := [.retAddr 5]) dX8_ringsNow_46 fw_J4_append_15ec4 fl_X8_151 fm_J4_append_15ec4 fe_J4_append_15ec4 hB25.1 (by decide) rfl rfl rfl (c_J4_append_15ec4 hs (d := d - 1) (by omega) (a := a0) (v := v_26) (c := k_26) (bs := b_26) (w := w22) hB25 5 t43 z43 os43 ho143 ho243 ho443 (by omega) (by omega) (kc := ((gL (k_26 + os43.length) b_26.length - b_26.length) / 18)) (ks := (2 * (gL (k_26 + os43.length) b_26.length - b_26.length))) (Nat.le_refl _) (Nat.le_refl _)) (by omega) (by omega) (by omega) (st := []) (Nat.le_of_ble_eq_true rfl) rfl (kr_A fun r44 w44 hw44 => ?_) kx_A
                obtain ⟨hra44, v44', ys44, hB44, hFc44, hvv44, hp44⟩ := hw44
                obtain rfl := hra44.symm
                have hgl44 := hFc44.1
                have hB444 := hB44.2.2.2.1
                have hB544 := hB44.2.2.2.2.2
                have hB644 := hB44.2.2.2.2.1
                have h19_44 := (hFc44.2 19 (by omega) (by omega) (gl h19_30)).trans h19_30
                have h20_44 := (hFc44.2 20 (by omega) (by omega) (gl h20_30)).trans h20_30
                have h21_44 := (hFc44.2 21 (by omega) (by omega) (gl h21_30)).trans h21_30
                have h22_44 := (hFc44.2 22 (by omega) (by omega) (gl h22_30)).trans h22_30
                have hbb_44 := (hFc44.2 b (by omega) (by omega) (gl hb_30)).trans hb_30
                have hF44 := hF24.sb hFc44 (by omega) (by omega)
                refine J_iload_n (pc := 49) dX8_ringsNow_49 rfl rfl ?_
                have hgf47 := gL_d ((k_26 + os43.length) + dgs c3) ys44.length
                have hgf48 := dgs_le c3
                have hgf49 := dgs_1 (x := c3) (by omega)
                have hB146 := hB44.2.2.2.1
                have hB246 := hB44.2.2.2.2.1
                have hB346 := hB44.2.2.2.2.2
                refine J_callV (pc := 50) (as := [.int (nI c3)]) dX8_ringsNow_50 fw_J4_append_bf812 fl_X8_155 fm_J4_append_bf812 fe_J4_append_bf812 hB44.1 (by decide) rfl rfl rfl (c_J4_append_bf812 hs (d := d - 1) (by omega) hXO (a := a0) (v := v44') (c := k_26 + os43.length) (bs := ys44) (w := w44) hB44 c3 (by omega) (by omega) (kc := ((gL ((k_26 + os43.length) + dgs c3) ys44.length - ys44.length) / 18)) (ks := (2 * (gL ((k_26 + os43.length) + dgs c3) ys44.length - ys44.length))) (Nat.le_refl _) (Nat.le_refl _)) (by omega) (by omega) (by omega) (st := []) (Nat.le_of_ble_eq_true rfl) rfl (kr_A fun r46 w46 hw46 => ?_) kx_A
                obtain ⟨hra46, v46', ys46, hB46, hFc46, hvv46, hp46⟩ := hw46
                obtain rfl := hra46.symm
                have hgl46 := hFc46.1
                have hB446 := hB46.2.2.2.1
                have hB546 := hB46.2.2.2.2.2
                have hB646 := hB46.2.2.2.2.1
                have h19_46 := (hFc46.2 19 (by omega) (by omega) (gl h19_44)).trans h19_44
                have h20_46 := (hFc46.2 20 (by omega) (by omega) (gl h20_44)).trans h20_44
                have h21_46 := (hFc46.2 21 (by omega) (by omega) (gl h21_44)).trans h21_44
                have h22_46 := (hFc46.2 22 (by omega) (by omega) (gl h22_44)).trans h22_44
                have hbb_46 := (hFc46.2 b (by omega) (by omega) (gl hbb_44)).trans hbb_44
                have hF46 := hF44.sb hFc46 (by omega) (by omega)
                refine J_pop (pc := 53) dX8_ringsNow_53 rfl ?_
                refine J_iincM (pc := 54) dX8_ringsNow_54 rfl (by omega) (by decide) rfl ?_
                show J X mX8_ringsNow d (kc20 - ((gL (k_26 + os43.length) b_26.length - b_26.length) / 18) - ((gL ((k_26 + os43.length) + dgs c3) ys44.length - ys44.length) / 18)) (ks21 - (2 * (gL (k_26 + os43.length) b_26.length - b_26.length)) - (2 * (gL ((k_26 + os43.length) + dgs c3) ys44.length - ys44.length))) 57 [some (.ref 19), some (.int (nI a)), some (.ref a0), some (.int (nI c3)), some (.int (nI (c4 - 1)))] [] w46 _
                refine J_goto (pc := 57) (tgt := 26) dX8_ringsNow_57 (by decide) ?_
                exact J_sub (L' := [some (.ref 19), some (.int (nI a)), some (.ref a0), some (.int (nI c3)), some (.int (nI (c4 - 1)))]) ⟨rfl, ⟨rfl, ⟨rfl, ⟨rfl, ⟨rfl, trivial⟩⟩⟩⟩⟩ (ihlp26_19 _ _ w46 v46' (k_26 + os43.length + dgs c3) ys46 (c4 - 1) ⟨h19_46, h20_46, h21_46, h22_46, hbb_46, hbl_30, hb3_30⟩ hF46 hB46 (by omega) (by omega) (by omega) (by first | assumption | omega) (by first | assumption | omega) (by omega))
        exact J_sub (L' := [some (.ref 19), some (.int (nI a)), some (.ref a0), some (.int (nI c3)), some (.int (nI k18))]) ⟨rfl, ⟨rfl, ⟨rfl, ⟨rfl, ⟨rfl, trivial⟩⟩⟩⟩⟩ (lp26_19 _ _ _ w6 v_10 k_10 b_10 k18 ⟨h19_14, h20_14, h21_14, h22_14, hb_14, hbl_14, hb3_14⟩ hF8 hB9 (by omega) (by omega) (by omega) (by first | assumption | omega) (by first | assumption | omega) (Nat.lt_succ_self _))
  exact J_sub (L' := [some (.ref 19), some (.int (nI a)), some (.ref a0), some (.int (nI 1)), none]) ⟨rfl, ⟨rfl, ⟨rfl, ⟨rfl, trivial⟩⟩⟩⟩ (lp10_3 _ _ _ w2 v2' 0 ys2 1 ⟨h19_2, h20_2, h21_2, h22_2, hbb_2, hbl, hb3⟩ hF2 hB2 (by omega) (by omega) (by omega) (by first | assumption | omega) (by first | assumption | omega) (by first | assumption | omega) (Nat.lt_succ_self _))
