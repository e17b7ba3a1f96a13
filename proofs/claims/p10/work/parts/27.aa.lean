/-! room for text, step by step -/
theorem gL_le (m l : Nat) : l ≤ gL m l := by
  rcases gL_d m l with h | h | h <;> omega
theorem pt_k {l l1 kc : Nat} (h : (620 - l) / 18 ≤ kc) (h1 : l ≤ l1) : (620 - l1) / 18 ≤ kc - (l1 - l) / 18 := by
  omega
theorem pt_s {l l1 ks : Nat} (h : 1240 - 2 * l ≤ ks) (h1 : l ≤ l1) : 1240 - 2 * l1 ≤ ks - 2 * (l1 - l) := by
  omega
theorem pot_k1 {l m l1 kc : Nat} (h : (620 - l) / 18 ≤ kc) (h1 : l1 = gL m l) : (620 - l1) / 18 ≤ kc - (gL m l - l) / 18 := by
  rw [h1]; exact pt_k h (gL_le _ _)
theorem pot_s1 {l m l1 ks : Nat} (h : 1240 - 2 * l ≤ ks) (h1 : l1 = gL m l) : 1240 - 2 * l1 ≤ ks - 2 * (gL m l - l) := by
  rw [h1]; exact pt_s h (gL_le _ _)
theorem pot_k2 {l m m2 l1 l2 kc : Nat} (h : (620 - l) / 18 ≤ kc) (h1 : l1 = gL m l) (h2 : l2 = gL m2 l1) : (620 - l2) / 18 ≤ kc - (gL m l - l) / 18 - (gL m2 l1 - l1) / 18 := pot_k1 (pot_k1 h h1) h2
theorem pot_s2 {l m m2 l1 l2 ks : Nat} (h : 1240 - 2 * l ≤ ks) (h1 : l1 = gL m l) (h2 : l2 = gL m2 l1) : 1240 - 2 * l2 ≤ ks - 2 * (gL m l - l) - 2 * (gL m2 l1 - l1) := pot_s1 (pot_s1 h h1) h2
/-! texts of the reference -/
set_option maxRecDepth 100000 in
set_option maxHeartbeats 40000000 in
theorem c_X8_ringsNow {X : jX} (hs : X.1.stackTraces = false) {d : Nat} (hd : 14 ≤ d) (hXO : XO X) {n : Nat} {mv rw nx : Nat → Nat} {b : Nat} {bt : List Int32} {kn en dn rf kk th : Int32} {w : List jC} (hR : RM n mv rw nx b bt kn en dn rf kk th w) (hn1 : 2 ≤ n) (hn2 : n ≤ 7) (gm : ∀ i, mv i < 7) (gr : ∀ i, rw i < 7) (gx : ∀ i, nx i < 7) (a : Nat) (hy0 : a < 6) (hy1 : PM n mv) {kc ks : Nat} (hkc : 40 ≤ kc) (hks : 1500 ≤ ks) : jMet X mX8_ringsNow d kc ks [.ref 19, .int (nI a)] w (pA (fun r w' => RM n mv rw nx b bt kn en dn rf kk th w' ∧ FR b b w w' ∧ ∃ (vz : Nat) (zs : List Int32), w'[r]? = some (.inr (0, [.ref vz, .int (nI 0), .int (nI 0), .int (nI 0)])) ∧ w'[vz]? = some (.inl (1, zs)) ∧ zs.length ≤ 270)) := by
  refine jMet_of hs (by decide +kernel) (Nat.le_of_ble_eq_true rfl) (L := [some (.ref 19), some (.int (nI a)), none, none, none]) rfl ?_
  have hdm : 13 ≤ d - 1 := by omega
  have hdp : d - 1 + 1 ≤ d := by omega
  have hfc := fc_7 hn2
  have hfp := fc_pos n
  obtain ⟨h19, h20, h21, h22, hbb, hbl, hb3⟩ := hR
  have hF : FR b b w w := FR.rf
  have q191 := gl h19
  have q201 := gl h20
  have q211 := gl h21
  have q221 := gl h22
  have qb1 := gl hbb
  have qF1 := hF.1
  refine J_newO (pc := 0) (M := mX8_ringsNow) (fs := [.null, .int (nI 0), .int (nI 0), .int (nI 0)]) dX8_ringsNow_0 kC1 fc_X8_146 fi_J4 fz_J4 df_J4 (by omega) (by omega) (fun a0 w1 ha1 hln1 hc1 hne1 => ?_)
  have h19_1 := (hne1 19 (by omega)).trans h19
  have h20_1 := (hne1 20 (by omega)).trans h20
  have h21_1 := (hne1 21 (by omega)).trans h21
  have h22_1 := (hne1 22 (by omega)).trans h22
  have hb_1 := (hne1 _ (by omega)).trans hbb
  have hF1 := hF.pu ha1 hln1 hne1
  have qa1 : 23 ≤ a0 := by omega
  have qb1 : a0 ≠ b := by omega
  have qw1 : w.length ≤ a0 := by omega
  refine J_dup (pc := 3) dX8_ringsNow_3 rfl ?_
  refine J_callI (pc := 4) (M := mX8_ringsNow) (as := []) dX8_ringsNow_4 fw_J4_init_da8c8 fl_X8_148 fm_J4_init_da8c8 rfl rfl rfl (c_J4_init_da8c8 hs (d := d - 1) (by omega) (w := w1) a0 hc1 (kc := 1) (ks := 16) (Nat.le_refl _) (Nat.le_refl _)) (by omega) (by omega) (by omega) (st := [.ref a0]) (Nat.le_of_ble_eq_true rfl) rfl (kr_V fun w2 hw2 => ?_) kx_V
  obtain ⟨v2', ys2, hB2, hFc2, hvv2⟩ := hw2
  have hgl2 := hFc2.1
  have hbl2 := hB2.2.2.2.2.1
  have h19_2 := (hFc2.2 19 (by omega) (by omega) (gl h19_1)).trans h19_1
  have h20_2 := (hFc2.2 20 (by omega) (by omega) (gl h20_1)).trans h20_1
  have h21_2 := (hFc2.2 21 (by omega) (by omega) (gl h21_1)).trans h21_1
  have h22_2 := (hFc2.2 22 (by omega) (by omega) (gl h22_1)).trans h22_1
  have hbb_2 := (hFc2.2 b (by omega) (by omega) (gl hb_1)).trans hb_1
  have hF2 := hF1.sb hFc2 (by omega) (by omega)
  refine J_astore_n (pc := 7) dX8_ringsNow_7 rfl (by decide) rfl rfl ?_
  show J X mX8_ringsNow d (kc - 1 - 1) (ks - 4 - 16) 8 [some (.ref 19), some (.int (nI a)), some (.ref a0), none, none] [] w2 _
  refine J_iconst (pc := 8) (v := nI 1) dX8_ringsNow_8 (by decide) ?_
  refine J_istore_n (pc := 9) dX8_ringsNow_9 rfl (by decide) rfl ?_
  show J X mX8_ringsNow d (kc - 1 - 1) (ks - 4 - 16) 10 [some (.ref 19), some (.int (nI a)), some (.ref a0), some (.int (nI 1)), none] [] w2 _
  have lp10_3 : ∀ (fuel : Nat) (kc4 ks5 : Nat) (w6 : List jC) (v_10 k_10 : Nat) (b_10 : List Int32) (c3 : Nat), (RM n mv rw nx b bt kn en dn rf kk th w6) → (FR b b w w6) → (SBp a0 v_10 (nI 0) k_10 b_10 w6) → (w.length ≤ v_10) → ((620 - b_10.length) / 18 ≤ kc4) → (1240 - 2 * b_10.length ≤ ks5) → (1 ≤ c3) → (c3 ≤ n + 1) → (k_10 ≤ 14 * (c3 - 1)) → (n + 1 - c3 < fuel) → J X mX8_ringsNow d kc4 ks5 10 [some (.ref 19), some (.int (nI a)), some (.ref a0), some (.int (nI c3)), none] [] w6 (pA (fun r w' => RM n mv rw nx b bt kn en dn rf kk th w' ∧ FR b b w w' ∧ ∃ (vz : Nat) (zs : List Int32), w'[r]? = some (.inr (0, [.ref vz, .int (nI 0), .int (nI 0), .int (nI 0)])) ∧ w'[vz]? = some (.inl (1, zs)) ∧ zs.length ≤ 270)) := by
    intro fuellp10_3
    induction fuellp10_3 with
    | zero => intros; omega
    | succ fuellp10_3 ihlp10_3 =>
      intro kc4 ks5 w6 v_10 k_10 b_10 c3 hR7 hF8 hB9 hv10 hr11 hr12 hv10_0 hv10_1 hv10_2 hf13
      obtain ⟨h19_14, h20_14, h21_14, h22_14, hb_14, hbl_14, hb3_14⟩ := hR7
      have qF15 := hF8.1
      refine J_iload_n (pc := 10) dX8_ringsNow_10 rfl rfl ?_
      refine J_aload_n (pc := 11) dX8_ringsNow_11 rfl rfl rfl ?_
      refine J_get (pc := 12) (k := 0) dX8_ringsNow_12 kC9 (by decide) ff_X8_7 h19_14 rfl ?_
      refine J_icmp_gtN (pc := 15) (tgt := 66) dX8_ringsNow_15 (by decide) (by omega) (by omega) (fun ht16 => ?_) (fun hf17 => ?_)
      · refine J_aload_n (pc := 66) dX8_ringsNow_66 rfl rfl rfl ?_
        have hB118 := hB9.2.2.2.1
        have hB318 := hB9.2.2.2.2.2
        refine J_callV (pc := 67) (M := mX8_ringsNow) (as := []) dX8_ringsNow_67 fw_J4_toString_0e30d fl_X8_158 fm_J4_toString_0e30d fe_J4_toString_0e30d hB9.1 (by decide) rfl rfl rfl (c_J4_toString_0e30d hs (d := d - 1) (by omega) (a := a0) (v := v_10) (c := k_10) (bs := b_10) (w := w6) hB9 (kc := 2) (ks := k_10 + 4) (Nat.le_refl _) (Nat.le_refl _)) (by omega) (by omega) (by omega) (st := []) (Nat.le_of_ble_eq_true rfl) rfl (kr_A fun r18 w18 hw18 => ?_) kx_A
        obtain ⟨hra18, hln18, hne18, vz18, zs18, hco18, hcn18, hyl18⟩ := hw18
        have h19_18 := (hne18 19 (gl h19_14)).trans h19_14
        have h20_18 := (hne18 20 (gl h20_14)).trans h20_14
        have h21_18 := (hne18 21 (gl h21_14)).trans h21_14
        have h22_18 := (hne18 22 (gl h22_14)).trans h22_14
        have hbb_18 := (hne18 b (gl hb_14)).trans hb_14
        have hF18 := hF8.gr hln18 hne18
        exact J_aret (pc := 70) dX8_ringsNow_70 rfl rfl rfl ⟨⟨h19_18, h20_18, h21_18, h22_18, hbb_18, hbl_14, hb3_14⟩, hF18, vz18, zs18, hco18, hcn18, by omega⟩
      · refine J_aload_n (pc := 18) dX8_ringsNow_18 rfl rfl rfl ?_
        refine J_iload_n (pc := 19) dX8_ringsNow_19 rfl rfl ?_
        refine J_iload_n (pc := 20) dX8_ringsNow_20 rfl rfl ?_
        refine J_callV0 (pc := 21) (M := mX8_ringsNow) (as := [.int (nI a), .int (nI c3)]) dX8_ringsNow_21 fw_X8_longOnes fl_X8_162 fm_X8_longOnes fe_X8_longOnes h19_14 (by decide) rfl rfl rfl (c_X8_longOnes hs (d := d - 1) (Nat.le_trans (by decide) hdm) (w := w6) (n := n) (mv := mv) (rw := rw) (nx := nx) (b := b) (bt := bt) (kn := kn) (en := en) (dn := dn) (rf := rf) (kk := kk) (th := th) ⟨h19_14, h20_14, h21_14, h22_14, hb_14, hbl_14, hb3_14⟩ hn1 hn2 gm gr gx a c3 (by first | assumption | omega) (by first | assumption | omega) (by first | assumption | omega) (by first | assumption | omega) (kc := 0) (ks := 0)) hdp (st := []) (Nat.le_of_ble_eq_true rfl) rfl (kr_P fun v19 hv19 => ?_) kx_I
        obtain ⟨k19, rfl, hk19⟩ := hv19
        refine J_istore (pc := 24) dX8_ringsNow_24 (by decide) rfl ?_
        show J X mX8_ringsNow d kc4 ks5 26 [some (.ref 19), some (.int (nI a)), some (.ref a0), some (.int (nI c3)), some (.int (nI k19))] [] w6 _
        have lp26_20 : ∀ (fuel : Nat) (kc21 ks22 : Nat) (w23 : List jC) (v_26 k_26 : Nat) (b_26 : List Int32) (c4 : Nat), (RM n mv rw nx b bt kn en dn rf kk th w23) → (FR b b w w23) → (SBp a0 v_26 (nI 0) k_26 b_26 w23) → (w.length ≤ v_26) → ((620 - b_26.length) / 18 ≤ kc21) → (1240 - 2 * b_26.length ≤ ks22) → (c4 ≤ 7) → (k_26 + 2 * c4 ≤ 14 * c3) → (c4 < fuel) → J X mX8_ringsNow d kc21 ks22 26 [some (.ref 19), some (.int (nI a)), some (.ref a0), some (.int (nI c3)), some (.int (nI c4))] [] w23 (pA (fun r w' => RM n mv rw nx b bt kn en dn rf kk th w' ∧ FR b b w w' ∧ ∃ (vz : Nat) (zs : List Int32), w'[r]? = some (.inr (0, [.ref vz, .int (nI 0), .int (nI 0), .int (nI 0)])) ∧ w'[vz]? = some (.inl (1, zs)) ∧ zs.length ≤ 270)) := by
          intro fuellp26_20
          induction fuellp26_20 with
          | zero => intros; omega
          | succ fuellp26_20 ihlp26_20 =>
            intro kc21 ks22 w23 v_26 k_26 b_26 c4 hR24 hF25 hB26 hv27 hr28 hr29 hv26_0 hv26_1 hf30
            obtain ⟨h19_31, h20_31, h21_31, h22_31, hb_31, hbl_31, hb3_31⟩ := hR24
            have qF32 := hF25.1
            refine J_iload (pc := 26) dX8_ringsNow_26 rfl ?_
            refine J_if_leN (pc := 28) (tgt := 60) dX8_ringsNow_28 (by decide) (by omega) (fun ht33 => ?_) (fun hf34 => ?_)
            · refine J_iincN (pc := 60) (b := 1) dX8_ringsNow_60 rfl (by decide) (by decide) rfl ?_
              show J X mX8_ringsNow d kc21 ks22 63 [some (.ref 19), some (.int (nI a)), some (.ref a0), some (.int (nI (c3 + 1))), some (.int (nI c4))] [] w23 _
              refine J_goto (pc := 63) (tgt := 10) dX8_ringsNow_63 (by decide) ?_
              exact J_sub (L' := [some (.ref 19), some (.int (nI a)), some (.ref a0), some (.int (nI (c3 + 1))), none]) ⟨rfl, ⟨rfl, ⟨rfl, ⟨rfl, trivial⟩⟩⟩⟩ (ihlp10_3 _ _ w23 v_26 k_26 b_26 (c3 + 1) ⟨h19_31, h20_31, h21_31, h22_31, hb_31, hbl_31, hb3_31⟩ hF25 hB26 (by omega) (by first | exact pot_k2 (by assumption) (by assumption) (by assumption) | exact pot_k1 (by assumption) (by assumption) | assumption | omega) (by first | exact pot_s2 (by assumption) (by assumption) (by assumption) | exact pot_s1 (by assumption) (by assumption) | assumption | omega) (by first | assumption | omega) (by first | assumption | omega) (by first | assumption | omega) (by omega))
            · refine J_aload_n (pc := 31) dX8_ringsNow_31 rfl rfl rfl ?_
              refine J_aload_n (pc := 32) dX8_ringsNow_32 rfl rfl rfl ?_
              refine J_callV0 (pc := 33) (M := mX8_ringsNow) (as := []) dX8_ringsNow_33 fw_J4_length_8abf5 fl_X8_165 fm_J4_length_8abf5 fe_J4_length_8abf5 hB26.1 (by decide) rfl rfl rfl (c_J4_length_8abf5 hs (d := d - 1) (by omega) (a := a0) (v := v_26) (c := k_26) (bs := b_26) (w := w23) hB26 (kc := 0) (ks := 0)) (by omega) (st := [.ref a0]) (Nat.le_of_ble_eq_true rfl) rfl (kr_P fun v35 hv35 => ?_) kx_I
              subst hv35
              have hB135 := hB26.2.2.2.1
              have hB335 := hB26.2.2.2.2.2
              refine J_if_neN (pc := 36) (tgt := 44) dX8_ringsNow_36 (by decide) (by omega) (fun ht36 => ?_) (fun hf37 => ?_)
              · refine J_ldcS (pc := 44) (M := mX8_ringsNow) (a := 6) (tx := " ") dX8_ringsNow_44 (List.mem_cons_of_mem _ List.mem_cons_self) ?_
                obtain ⟨os38, t38, z38, ho138, ho238, ho338, ho438⟩ := hXO.2.2.2
                have hgf40 := gL_d (k_26 + os38.length) b_26.length
                have hB139 := hB26.2.2.2.1
                have hB239 := hB26.2.2.2.2.1
                have hB339 := hB26.2.2.2.2.2
                refine J_callV (pc := 46) (M := mX8_ringsNow) (as := [.retAddr 6]) dX8_ringsNow_46 fw_J4_append_15ec4 fl_X8_151 fm_J4_append_15ec4 fe_J4_append_15ec4 hB26.1 (by decide) rfl rfl rfl (c_J4_append_15ec4 hs (d := d - 1) (by omega) (a := a0) (v := v_26) (c := k_26) (bs := b_26) (w := w23) hB26 6 t38 z38 os38 ho138 ho238 ho438 (by omega) (by omega) (kc := ((gL (k_26 + os38.length) b_26.length - b_26.length) / 18)) (ks := (2 * (gL (k_26 + os38.length) b_26.length - b_26.length))) (Nat.le_refl _) (Nat.le_refl _)) (by omega) (by omega) (by omega) (st := []) (Nat.le_of_ble_eq_true rfl) rfl (kr_A fun r39 w39 hw39 => ?_) kx_A
                obtain ⟨hra39, v39', ys39, hB39, hFc39, hvv39, hp39⟩ := hw39
                obtain rfl := hra39.symm
                have hgl39 := hFc39.1
                have hB439 := hB39.2.2.2.1
                have hB539 := hB39.2.2.2.2.2
                have hB639 := hB39.2.2.2.2.1
                have h19_39 := (hFc39.2 19 (by omega) (by omega) (gl h19_31)).trans h19_31
                have h20_39 := (hFc39.2 20 (by omega) (by omega) (gl h20_31)).trans h20_31
                have h21_39 := (hFc39.2 21 (by omega) (by omega) (gl h21_31)).trans h21_31
                have h22_39 := (hFc39.2 22 (by omega) (by omega) (gl h22_31)).trans h22_31
                have hbb_39 := (hFc39.2 b (by omega) (by omega) (gl hb_31)).trans hb_31
                have hF39 := hF25.sb hFc39 (by omega) (by omega)
                refine J_iload_n (pc := 49) dX8_ringsNow_49 rfl rfl ?_
                have hgf42 := gL_d ((k_26 + os38.length) + dgs c3) ys39.length
                have hgf43 := dgs_le c3
                have hgf44 := dgs_1 (x := c3) (by omega)
                have hB141 := hB39.2.2.2.1
                have hB241 := hB39.2.2.2.2.1
                have hB341 := hB39.2.2.2.2.2
                refine J_callV (pc := 50) (M := mX8_ringsNow) (as := [.int (nI c3)]) dX8_ringsNow_50 fw_J4_append_bf812 fl_X8_155 fm_J4_append_bf812 fe_J4_append_bf812 hB39.1 (by decide) rfl rfl rfl (c_J4_append_bf812 hs (d := d - 1) (by omega) hXO (a := a0) (v := v39') (c := k_26 + os38.length) (bs := ys39) (w := w39) hB39 c3 (by omega) (by omega) (kc := ((gL ((k_26 + os38.length) + dgs c3) ys39.length - ys39.length) / 18)) (ks := (2 * (gL ((k_26 + os38.length) + dgs c3) ys39.length - ys39.length))) (Nat.le_refl _) (Nat.le_refl _)) (by omega) (by omega) (by omega) (st := []) (Nat.le_of_ble_eq_true rfl) rfl (kr_A fun r41 w41 hw41 => ?_) kx_A
                obtain ⟨hra41, v41', ys41, hB41, hFc41, hvv41, hp41⟩ := hw41
                obtain rfl := hra41.symm
                have hgl41 := hFc41.1
                have hB441 := hB41.2.2.2.1
                have hB541 := hB41.2.2.2.2.2
                have hB641 := hB41.2.2.2.2.1
                have h19_41 := (hFc41.2 19 (by omega) (by omega) (gl h19_39)).trans h19_39
                have h20_41 := (hFc41.2 20 (by omega) (by omega) (gl h20_39)).trans h20_39
                have h21_41 := (hFc41.2 21 (by omega) (by omega) (gl h21_39)).trans h21_39
                have h22_41 := (hFc41.2 22 (by omega) (by omega) (gl h22_39)).trans h22_39
                have hbb_41 := (hFc41.2 b (by omega) (by omega) (gl hbb_39)).trans hbb_39
                have hF41 := hF39.sb hFc41 (by omega) (by omega)
                refine J_pop (pc := 53) dX8_ringsNow_53 rfl ?_
                refine J_iincM (pc := 54) dX8_ringsNow_54 rfl (by omega) (by decide) rfl ?_
                show J X mX8_ringsNow d (kc21 - ((gL (k_26 + os38.length) b_26.length - b_26.length) / 18) - ((gL ((k_26 + os38.length) + dgs c3) ys39.length - ys39.length) / 18)) (ks22 - (2 * (gL (k_26 + os38.length) b_26.length - b_26.length)) - (2 * (gL ((k_26 + os38.length) + dgs c3) ys39.length - ys39.length))) 57 [some (.ref 19), some (.int (nI a)), some (.ref a0), some (.int (nI c3)), some (.int (nI (c4 - 1)))] [] w41 _
                refine J_goto (pc := 57) (tgt := 26) dX8_ringsNow_57 (by decide) ?_
                exact J_sub (L' := [some (.ref 19), some (.int (nI a)), some (.ref a0), some (.int (nI c3)), some (.int (nI (c4 - 1)))]) ⟨rfl, ⟨rfl, ⟨rfl, ⟨rfl, ⟨rfl, trivial⟩⟩⟩⟩⟩ (ihlp26_20 _ _ w41 v41' (k_26 + os38.length + dgs c3) ys41 (c4 - 1) ⟨h19_41, h20_41, h21_41, h22_41, hbb_41, hbl_31, hb3_31⟩ hF41 hB41 (by omega) (by first | exact pot_k2 (by assumption) (by assumption) (by assumption) | exact pot_k1 (by assumption) (by assumption) | assumption | omega) (by first | exact pot_s2 (by assumption) (by assumption) (by assumption) | exact pot_s1 (by assumption) (by assumption) | assumption | omega) (by first | assumption | omega) (by first | assumption | omega) (by omega))
              · refine J_ldcS (pc := 39) (M := mX8_ringsNow) (a := 5) (tx := "") dX8_ringsNow_39 List.mem_cons_self ?_
                refine J_goto (pc := 41) (tgt := 46) dX8_ringsNow_41 (by decide) ?_
                obtain ⟨os45, t45, z45, ho145, ho245, ho345, ho445⟩ := hXO.2.2.1
                have hgf47 := gL_d (k_26 + os45.length) b_26.length
                have hB146 := hB26.2.2.2.1
                have hB246 := hB26.2.2.2.2.1
                have hB346 := hB26.2.2.2.2.2
                refine J_callV (pc := 46) (M := mX8_ringsNow) (as := [.retAddr 5]) dX8_ringsNow_46 fw_J4_append_15ec4 fl_X8_151 fm_J4_append_15ec4 fe_J4_append_15ec4 hB26.1 (by decide) rfl rfl rfl (c_J4_append_15ec4 hs (d := d - 1) (by omega) (a := a0) (v := v_26) (c := k_26) (bs := b_26) (w := w23) hB26 5 t45 z45 os45 ho145 ho245 ho445 (by omega) (by omega) (kc := ((gL (k_26 + os45.length) b_26.length - b_26.length) / 18)) (ks := (2 * (gL (k_26 + os45.length) b_26.length - b_26.length))) (Nat.le_refl _) (Nat.le_refl _)) (by omega) (by omega) (by omega) (st := []) (Nat.le_of_ble_eq_true rfl) rfl (kr_A fun r46 w46 hw46 => ?_) kx_A
                obtain ⟨hra46, v46', ys46, hB46, hFc46, hvv46, hp46⟩ := hw46
                obtain rfl := hra46.symm
                have hgl46 := hFc46.1
                have hB446 := hB46.2.2.2.1
                have hB546 := hB46.2.2.2.2.2
                have hB646 := hB46.2.2.2.2.1
                have h19_46 := (hFc46.2 19 (by omega) (by omega) (gl h19_31)).trans h19_31
                have h20_46 := (hFc46.2 20 (by omega) (by omega) (gl h20_31)).trans h20_31
                have h21_46 := (hFc46.2 21 (by omega) (by omega) (gl h21_31)).trans h21_31
                have h22_46 := (hFc46.2 22 (by omega) (by omega) (gl h22_31)).trans h22_31
                have hbb_46 := (hFc46.2 b (by omega) (by omega) (gl hb_31)).trans hb_31
                have hF46 := hF25.sb hFc46 (by omega) (by omega)
                refine J_iload_n (pc := 49) dX8_ringsNow_49 rfl rfl ?_
                have hgf49 := gL_d ((k_26 + os45.length) + dgs c3) ys46.length
                have hgf50 := dgs_le c3
                have hgf51 := dgs_1 (x := c3) (by omega)
                have hB148 := hB46.2.2.2.1
                have hB248 := hB46.2.2.2.2.1
                have hB348 := hB46.2.2.2.2.2
                refine J_callV (pc := 50) (M := mX8_ringsNow) (as := [.int (nI c3)]) dX8_ringsNow_50 fw_J4_append_bf812 fl_X8_155 fm_J4_append_bf812 fe_J4_append_bf812 hB46.1 (by decide) rfl rfl rfl (c_J4_append_bf812 hs (d := d - 1) (by omega) hXO (a := a0) (v := v46') (c := k_26 + os45.length) (bs := ys46) (w := w46) hB46 c3 (by omega) (by omega) (kc := ((gL ((k_26 + os45.length) + dgs c3) ys46.length - ys46.length) / 18)) (ks := (2 * (gL ((k_26 + os45.length) + dgs c3) ys46.length - ys46.length))) (Nat.le_refl _) (Nat.le_refl _)) (by omega) (by omega) (by omega) (st := []) (Nat.le_of_ble_eq_true rfl) rfl (kr_A fun r48 w48 hw48 => ?_) kx_A
                obtain ⟨hra48, v48', ys48, hB48, hFc48, hvv48, hp48⟩ := hw48
                obtain rfl := hra48.symm
                have hgl48 := hFc48.1
                have hB448 := hB48.2.2.2.1
                have hB548 := hB48.2.2.2.2.2
                have hB648 := hB48.2.2.2.2.1
                have h19_48 := (hFc48.2 19 (by omega) (by omega) (gl h19_46)).trans h19_46
                have h20_48 := (hFc48.2 20 (by omega) (by omega) (gl h20_46)).trans h20_46
                have h21_48 := (hFc48.2 21 (by omega) (by omega) (gl h21_46)).trans h21_46
                have h22_48 := (hFc48.2 22 (by omega) (by omega) (gl h22_46)).trans h22_46
                have hbb_48 := (hFc48.2 b (by omega) (by omega) (gl hbb_46)).trans hbb_46
                have hF48 := hF46.sb hFc48 (by omega) (by omega)
                refine J_pop (pc := 53) dX8_ringsNow_53 rfl ?_
                refine J_iincM (pc := 54) dX8_ringsNow_54 rfl (by omega) (by decide) rfl ?_
                show J X mX8_ringsNow d (kc21 - ((gL (k_26 + os45.length) b_26.length - b_26.length) / 18) - ((gL ((k_26 + os45.length) + dgs c3) ys46.length - ys46.length) / 18)) (ks22 - (2 * (gL (k_26 + os45.length) b_26.length - b_26.length)) - (2 * (gL ((k_26 + os45.length) + dgs c3) ys46.length - ys46.length))) 57 [some (.ref 19), some (.int (nI a)), some (.ref a0), some (.int (nI c3)), some (.int (nI (c4 - 1)))] [] w48 _
                refine J_goto (pc := 57) (tgt := 26) dX8_ringsNow_57 (by decide) ?_
                exact J_sub (L' := [some (.ref 19), some (.int (nI a)), some (.ref a0), some (.int (nI c3)), some (.int (nI (c4 - 1)))]) ⟨rfl, ⟨rfl, ⟨rfl, ⟨rfl, ⟨rfl, trivial⟩⟩⟩⟩⟩ (ihlp26_20 _ _ w48 v48' (k_26 + os45.length + dgs c3) ys48 (c4 - 1) ⟨h19_48, h20_48, h21_48, h22_48, hbb_48, hbl_31, hb3_31⟩ hF48 hB48 (by omega) (by first | exact pot_k2 (by assumption) (by assumption) (by assumption) | exact pot_k1 (by assumption) (by assumption) | assumption | omega) (by first | exact pot_s2 (by assumption) (by assumption) (by assumption) | exact pot_s1 (by assumption) (by assumption) | assumption | omega) (by first | assumption | omega) (by first | assumption | omega) (by omega))
        exact J_sub (L' := [some (.ref 19), some (.int (nI a)), some (.ref a0), some (.int (nI c3)), some (.int (nI k19))]) ⟨rfl, ⟨rfl, ⟨rfl, ⟨rfl, ⟨rfl, trivial⟩⟩⟩⟩⟩ (lp26_20 _ _ _ w6 v_10 k_10 b_10 k19 ⟨h19_14, h20_14, h21_14, h22_14, hb_14, hbl_14, hb3_14⟩ hF8 hB9 (by omega) (by omega) (by omega) (by first | assumption | omega) (by first | assumption | omega) (Nat.lt_succ_self _))
  exact J_sub (L' := [some (.ref 19), some (.int (nI a)), some (.ref a0), some (.int (nI 1)), none]) ⟨rfl, ⟨rfl, ⟨rfl, ⟨rfl, trivial⟩⟩⟩⟩ (lp10_3 _ _ _ w2 v2' 0 ys2 1 ⟨h19_2, h20_2, h21_2, h22_2, hbb_2, hbl, hb3⟩ hF2 hB2 (by omega) (by omega) (by omega) (by first | assumption | omega) (by first | assumption | omega) (by first | assumption | omega) (Nat.lt_succ_self _))
