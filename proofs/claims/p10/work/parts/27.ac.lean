/-! texts of the reference -/
set_option maxRecDepth 100000 in
set_option maxHeartbeats 40000000 in
theorem c_X8_ringText {X : jX} (hs : X.1.stackTraces = false) {d : Nat} (hd : 14 ≤ d) (hXO : XO X) {n : Nat} {mv rw nx : Nat → Nat} {b : Nat} {bt : List Int32} {kn en dn rf kk th : Int32} {w : List jC} (hR : RM n mv rw nx b bt kn en dn rf kk th w) (hn1 : 2 ≤ n) (hn2 : n ≤ 7) (gm : ∀ i, mv i < 7) (gr : ∀ i, rw i < 7) (gx : ∀ i, nx i < 7) (a : Int32) (c : Int32) (hy0 : PM n mv) {kc ks : Nat} (hkc : 40 ≤ kc) (hks : 1500 ≤ ks) : jMet X mX8_ringText d kc ks [.ref 19, .int a, .int c] w (pS (fun w' => ∃ (th' : Int32), RM n mv rw nx b bt kn en dn rf kk th' w' ∧ FR b b w w')) := by
  refine jMet_of hs (by decide +kernel) (Nat.le_of_ble_eq_true rfl) (L := [some (.ref 19), some (.int a), some (.int c), none, none]) rfl ?_
  have hdm : 13 ≤ d - 1 := by omega
  have hdp : d - 1 + 1 ≤ d := by omega
  have hfc := fc_7 hn2
  have hfp := fc_pos n
  obtain ⟨h19, h20, h21, h22, hbb, hbl, hb3⟩ := hR
  have hF : FR b b w w := FR.rf
  have qL0 := gl h22
  have qL1 := gl hbb
  refine J_aload_n (pc := 0) dX8_ringText_0 rfl rfl rfl ?_
  refine J_iload_n (pc := 1) dX8_ringText_1 rfl rfl ?_
  refine J_callS0 (pc := 2) (M := mX8_ringText) (as := [.int a]) dX8_ringText_2 fw_X8_isCell fl_X8_108 fs_X8_isCell rfl (c_X8_isCell hs (d := d - 1) (Nat.le_trans (by decide) hdm) (w := w) a (kc := 0) (ks := 0)) hdp (st := [.ref 19]) (Nat.le_of_ble_eq_true rfl) rfl (kr_P fun v1 hv1 => ?_) kx_I
  rcases hv1 with ⟨rfl, hk1_0⟩ | ⟨q1, rfl, hk1_0, rfl⟩
  · refine J_if_eqN (pc := 5) (tgt := 16) dX8_ringText_5 (by decide) (by decide) (fun _ => ?_) (fun h => absurd h (by decide))
    refine J_iconst (pc := 16) (v := nI 1) dX8_ringText_16 (by decide) ?_
    refine J_goto (pc := 17) (tgt := 21) dX8_ringText_17 (by decide) ?_
    refine J_callV0 (pc := 21) (M := mX8_ringText) (as := [.int (nI 1)]) dX8_ringText_21 fw_X8_isThrown_ fl_X8_105 fm_X8_isThrown_ fe_X8_isThrown_ h19 (by decide) rfl rfl rfl (c_X8_isThrown_ hs (d := d - 1) (Nat.le_trans (by decide) hdm) (w := w) (n := n) (mv := mv) (rw := rw) (nx := nx) (b := b) (bt := bt) (kn := kn) (en := en) (dn := dn) (rf := rf) (kk := kk) (th := th) ⟨h19, h20, h21, h22, hbb, hbl, hb3⟩ hn1 hn2 gm gr gx 1 (by first | assumption | omega) (kc := 0) (ks := 0)) hdp (st := []) (Nat.le_of_ble_eq_true rfl) rfl (kr_I fun v2 w2 hv2 hw2 => ?_) kx_I
    obtain ⟨hR2, hFc2⟩ := hw2
    obtain ⟨h19_2, h20_2, h21_2, h22_2, hbb_2, hbl_2, hb3_2⟩ := hR2
    have hF2 := hF.tr hFc2
    subst hv2
    show J X mX8_ringText d kc ks 24 [some (.ref 19), some (.int a), some (.int c), none, none] [.int (nI 1)] w2 _
    refine J_if_eqN (pc := 24) (tgt := 30) dX8_ringText_24 (by decide) (by decide) (fun h => absurd h (by decide)) (fun _ => ?_)
    refine J_ldcS (pc := 27) (M := mX8_ringText) (a := 5) (tx := "") dX8_ringText_27 List.mem_cons_self ?_
    exact J_aret (pc := 29) dX8_ringText_29 rfl rfl rfl ⟨rfl, nI (tW 1 0), ⟨h19_2, h20_2, h21_2, h22_2, hbb_2, hbl_2, hb3_2⟩, hF2⟩
  · refine J_if_eqN (pc := 5) (tgt := 16) dX8_ringText_5 (by decide) (by decide) (fun h => absurd h (by decide)) (fun _ => ?_)
    refine J_aload_n (pc := 8) dX8_ringText_8 rfl rfl rfl ?_
    refine J_iload_n (pc := 9) dX8_ringText_9 rfl rfl ?_
    refine J_callV0 (pc := 10) (M := mX8_ringText) (as := [.int c]) dX8_ringText_10 fw_X8_isPoint fl_X8_118 fm_X8_isPoint fe_X8_isPoint h19 (by decide) rfl rfl rfl (c_X8_isPoint hs (d := d - 1) (Nat.le_trans (by decide) hdm) (w := w) (n := n) (mv := mv) (rw := rw) (nx := nx) (b := b) (bt := bt) (kn := kn) (en := en) (dn := dn) (rf := rf) (kk := kk) (th := th) ⟨h19, h20, h21, h22, hbb, hbl, hb3⟩ hn1 hn2 gm gr gx c (kc := 0) (ks := 0)) hdp (st := [.ref 19]) (Nat.le_of_ble_eq_true rfl) rfl (kr_P fun v3 hv3 => ?_) kx_I
    rcases hv3 with ⟨rfl, hk3_0⟩ | ⟨q3, rfl, hk3_0, rfl⟩
    · refine J_if_neN (pc := 13) (tgt := 20) dX8_ringText_13 (by decide) (by decide) (fun h => absurd h (by decide)) (fun _ => ?_)
      refine J_iconst (pc := 16) (v := nI 1) dX8_ringText_16 (by decide) ?_
      refine J_goto (pc := 17) (tgt := 21) dX8_ringText_17 (by decide) ?_
      refine J_callV0 (pc := 21) (M := mX8_ringText) (as := [.int (nI 1)]) dX8_ringText_21 fw_X8_isThrown_ fl_X8_105 fm_X8_isThrown_ fe_X8_isThrown_ h19 (by decide) rfl rfl rfl (c_X8_isThrown_ hs (d := d - 1) (Nat.le_trans (by decide) hdm) (w := w) (n := n) (mv := mv) (rw := rw) (nx := nx) (b := b) (bt := bt) (kn := kn) (en := en) (dn := dn) (rf := rf) (kk := kk) (th := th) ⟨h19, h20, h21, h22, hbb, hbl, hb3⟩ hn1 hn2 gm gr gx 1 (by first | assumption | omega) (kc := 0) (ks := 0)) hdp (st := []) (Nat.le_of_ble_eq_true rfl) rfl (kr_I fun v4 w4 hv4 hw4 => ?_) kx_I
      obtain ⟨hR4, hFc4⟩ := hw4
      obtain ⟨h19_4, h20_4, h21_4, h22_4, hbb_4, hbl_4, hb3_4⟩ := hR4
      have hF4 := hF.tr hFc4
      subst hv4
      show J X mX8_ringText d kc ks 24 [some (.ref 19), some (.int (nI q1)), some (.int c), none, none] [.int (nI 1)] w4 _
      refine J_if_eqN (pc := 24) (tgt := 30) dX8_ringText_24 (by decide) (by decide) (fun h => absurd h (by decide)) (fun _ => ?_)
      refine J_ldcS (pc := 27) (M := mX8_ringText) (a := 5) (tx := "") dX8_ringText_27 List.mem_cons_self ?_
      exact J_aret (pc := 29) dX8_ringText_29 rfl rfl rfl ⟨rfl, nI (tW 1 0), ⟨h19_4, h20_4, h21_4, h22_4, hbb_4, hbl_4, hb3_4⟩, hF4⟩
    · refine J_if_neN (pc := 13) (tgt := 20) dX8_ringText_13 (by decide) (by decide) (fun _ => ?_) (fun h => absurd h (by decide))
      refine J_iconst (pc := 20) (v := nI 0) dX8_ringText_20 (by decide) ?_
      refine J_callV0 (pc := 21) (M := mX8_ringText) (as := [.int (nI 0)]) dX8_ringText_21 fw_X8_isThrown_ fl_X8_105 fm_X8_isThrown_ fe_X8_isThrown_ h19 (by decide) rfl rfl rfl (c_X8_isThrown_ hs (d := d - 1) (Nat.le_trans (by decide) hdm) (w := w) (n := n) (mv := mv) (rw := rw) (nx := nx) (b := b) (bt := bt) (kn := kn) (en := en) (dn := dn) (rf := rf) (kk := kk) (th := th) ⟨h19, h20, h21, h22, hbb, hbl, hb3⟩ hn1 hn2 gm gr gx 0 (by first | assumption | omega) (kc := 0) (ks := 0)) hdp (st := []) (Nat.le_of_ble_eq_true rfl) rfl (kr_I fun v5 w5 hv5 hw5 => ?_) kx_I
      obtain ⟨hR5, hFc5⟩ := hw5
      obtain ⟨h19_5, h20_5, h21_5, h22_5, hbb_5, hbl_5, hb3_5⟩ := hR5
      have hF5 := hF.tr hFc5
      subst hv5
      show J X mX8_ringText d kc ks 24 [some (.ref 19), some (.int (nI q1)), some (.int (nI q3)), none, none] [.int (nI 0)] w5 _
      refine J_if_eqN (pc := 24) (tgt := 30) dX8_ringText_24 (by decide) (by decide) (fun _ => ?_) (fun h => absurd h (by decide))
      have q196 := gl h19_5
      have q206 := gl h20_5
      have q216 := gl h21_5
      have q226 := gl h22_5
      have qb6 := gl hbb_5
      have qF6 := hF5.1
      refine J_newO (pc := 30) (M := mX8_ringText) (fs := [.null, .int (nI 0), .int (nI 0), .int (nI 0)]) dX8_ringText_30 kC1 fc_X8_146 fi_J4 fz_J4 df_J4 (by omega) (by omega) (fun a30 w6 ha6 hln6 hc6 hne6 => ?_)
      have h19_6 := (hne6 19 (by omega)).trans h19_5
      have h20_6 := (hne6 20 (by omega)).trans h20_5
      have h21_6 := (hne6 21 (by omega)).trans h21_5
      have h22_6 := (hne6 22 (by omega)).trans h22_5
      have hb_6 := (hne6 _ (by omega)).trans hbb_5
      have hF6 := hF5.pu ha6 hln6 hne6
      have qa6 : 23 ≤ a30 := by omega
      have qb6 : a30 ≠ b := by omega
      have qw6 : w.length ≤ a30 := by omega
      refine J_dup (pc := 33) dX8_ringText_33 rfl ?_
      refine J_callI (pc := 34) (M := mX8_ringText) (as := []) dX8_ringText_34 fw_J4_init_da8c8 fl_X8_148 fm_J4_init_da8c8 rfl rfl rfl (c_J4_init_da8c8 hs (d := d - 1) (by omega) (w := w6) a30 hc6 (kc := 1) (ks := 16) (Nat.le_refl _) (Nat.le_refl _)) (by omega) (by omega) (by omega) (st := [.ref a30]) (Nat.le_of_ble_eq_true rfl) rfl (kr_V fun w7 hw7 => ?_) kx_V
      obtain ⟨v7', ys7, hB7, hFc7, hvv7⟩ := hw7
      have hgl7 := hFc7.1
      have hbl7 := hB7.2.2.2.2.1
      have h19_7 := (hFc7.2 19 (by omega) (by omega) (gl h19_6)).trans h19_6
      have h20_7 := (hFc7.2 20 (by omega) (by omega) (gl h20_6)).trans h20_6
      have h21_7 := (hFc7.2 21 (by omega) (by omega) (gl h21_6)).trans h21_6
      have h22_7 := (hFc7.2 22 (by omega) (by omega) (gl h22_6)).trans h22_6
      have hbb_7 := (hFc7.2 b (by omega) (by omega) (gl hb_6)).trans hb_6
      have hF7 := hF6.sb hFc7 (by omega) (by omega)
      refine J_astore_n (pc := 37) dX8_ringText_37 rfl (by decide) rfl rfl ?_
      show J X mX8_ringText d (kc - 1 - 1) (ks - 4 - 16) 38 [some (.ref 19), some (.int (nI q1)), some (.int (nI q3)), some (.ref a30), none] [] w7 _
      obtain ⟨K, hK1, hK2, hK3, hK4⟩ := it_ret (hy0 q1 (by omega)) (p := q3) (by omega)
      refine J_aload_n (pc := 38) dX8_ringText_38 rfl rfl rfl ?_
      refine J_iload_n (pc := 39) dX8_ringText_39 rfl rfl ?_
      have hgf9 := gL_d (0 + dgs q3) ys7.length
      have hgf10 := dgs_le q3
      have hgf11 := dgs_1 (x := q3) (by omega)
      have hB18 := hB7.2.2.2.1
      have hB28 := hB7.2.2.2.2.1
      have hB38 := hB7.2.2.2.2.2
      refine J_callV (pc := 40) (M := mX8_ringText) (as := [.int (nI q3)]) dX8_ringText_40 fw_J4_append_bf812 fl_X8_155 fm_J4_append_bf812 fe_J4_append_bf812 hB7.1 (by decide) rfl rfl rfl (c_J4_append_bf812 hs (d := d - 1) (by omega) hXO (a := a30) (v := v7') (c := 0) (bs := ys7) (w := w7) hB7 q3 (by omega) (by omega) (kc := ((gL (0 + dgs q3) ys7.length - ys7.length) / 18)) (ks := (2 * (gL (0 + dgs q3) ys7.length - ys7.length))) (Nat.le_refl _) (Nat.le_refl _)) (by omega) (by omega) (by omega) (st := []) (Nat.le_of_ble_eq_true rfl) rfl (kr_A fun r8 w8 hw8 => ?_) kx_A
      obtain ⟨hra8, v8', ys8, hB8, hFc8, hvv8, hp8⟩ := hw8
      obtain rfl := hra8.symm
      have hgl8 := hFc8.1
      have hB48 := hB8.2.2.2.1
      have hB58 := hB8.2.2.2.2.2
      have hB68 := hB8.2.2.2.2.1
      have h19_8 := (hFc8.2 19 (by omega) (by omega) (gl h19_7)).trans h19_7
      have h20_8 := (hFc8.2 20 (by omega) (by omega) (gl h20_7)).trans h20_7
      have h21_8 := (hFc8.2 21 (by omega) (by omega) (gl h21_7)).trans h21_7
      have h22_8 := (hFc8.2 22 (by omega) (by omega) (gl h22_7)).trans h22_7
      have hbb_8 := (hFc8.2 b (by omega) (by omega) (gl hbb_7)).trans hbb_7
      have hF8 := hF7.sb hFc8 (by omega) (by omega)
      refine J_pop (pc := 43) dX8_ringText_43 rfl ?_
      refine J_aload_n (pc := 44) dX8_ringText_44 rfl rfl rfl ?_
      refine J_iload_n (pc := 45) dX8_ringText_45 rfl rfl ?_
      refine J_iload_n (pc := 46) dX8_ringText_46 rfl rfl ?_
      refine J_callV0 (pc := 47) (M := mX8_ringText) (as := [.int (nI q1), .int (nI q3)]) dX8_ringText_47 fw_X8_at fl_X8_82 fm_X8_at fe_X8_at h19_8 (by decide) rfl rfl rfl (c_X8_at hs (d := d - 1) (Nat.le_trans (by decide) hdm) (w := w8) (n := n) (mv := mv) (rw := rw) (nx := nx) (b := b) (bt := bt) (kn := kn) (en := en) (dn := dn) (rf := rf) (kk := kk) (th := nI (tW 0 0)) ⟨h19_8, h20_8, h21_8, h22_8, hbb_8, hbl_5, hb3_5⟩ hn1 hn2 gm gr gx q1 q3 (by first | assumption | omega) (by first | assumption | omega) (kc := 0) (ks := 0)) hdp (st := []) (Nat.le_of_ble_eq_true rfl) rfl (kr_P fun v12 hv12 => ?_) kx_I
      subst hv12
      have hq13 := gm (q1 * 7 + q3)
      refine J_istore (pc := 50) dX8_ringText_50 (by decide) rfl ?_
      show J X mX8_ringText d (kc - 1 - 1 - ((gL (0 + dgs q3) ys7.length - ys7.length) / 18)) (ks - 4 - 16 - (2 * (gL (0 + dgs q3) ys7.length - ys7.length))) 52 [some (.ref 19), some (.int (nI q1)), some (.int (nI q3)), some (.ref a30), some (.int (nI (mv (q1 * 7 + q3))))] [] w8 _
      have lp52_14 : ∀ (fuel : Nat) (kc15 ks16 : Nat) (w17 : List jC) (v_52 k_52 : Nat) (b_52 : List Int32) (y4 : Nat) (g52 : Nat), (RM n mv rw nx b bt kn en dn rf kk (nI (tW 0 0)) w17) → (FR b b w w17) → (SBp a30 v_52 (nI 0) k_52 b_52 w17) → (w.length ≤ v_52) → ((620 - b_52.length) / 18 ≤ kc15) → (1240 - 2 * b_52.length ≤ ks16) → (1 ≤ g52) → (g52 ≤ K) → (y4 = it (fun p => mv (q1 * 7 + p)) g52 q3) → (y4 < n) → (k_52 ≤ 2 * g52) → (K - g52 < fuel) → J X mX8_ringText d kc15 ks16 52 [some (.ref 19), some (.int (nI q1)), some (.int (nI q3)), some (.ref a30), some (.int (nI y4))] [] w17 (pS (fun w' => ∃ (th' : Int32), RM n mv rw nx b bt kn en dn rf kk th' w' ∧ FR b b w w')) := by
        intro fuellp52_14
        induction fuellp52_14 with
        | zero => intros; omega
        | succ fuellp52_14 ihlp52_14 =>
          intro kc15 ks16 w17 v_52 k_52 b_52 y4 g52 hR18 hF19 hB20 hv21 hr22 hr23 hv52_0 hv52_1 hv52_2 hv52_3 hv52_4 hf24
          obtain ⟨h19_25, h20_25, h21_25, h22_25, hb_25, hbl_25, hb3_25⟩ := hR18
          have qF26 := hF19.1
          refine J_iload (pc := 52) dX8_ringText_52 rfl ?_
          refine J_iload_n (pc := 54) dX8_ringText_54 rfl rfl ?_
          refine J_icmp_eqN (pc := 55) (tgt := 82) dX8_ringText_55 (by decide) (by omega) (by omega) (fun ht27 => ?_) (fun hf28 => ?_)
          · refine J_aload_n (pc := 82) dX8_ringText_82 rfl rfl rfl ?_
            have hB129 := hB20.2.2.2.1
            have hB329 := hB20.2.2.2.2.2
            refine J_callV (pc := 83) (M := mX8_ringText) (as := []) dX8_ringText_83 fw_J4_toString_0e30d fl_X8_158 fm_J4_toString_0e30d fe_J4_toString_0e30d hB20.1 (by decide) rfl rfl rfl (c_J4_toString_0e30d hs (d := d - 1) (by omega) (a := a30) (v := v_52) (c := k_52) (bs := b_52) (w := w17) hB20 (kc := 2) (ks := k_52 + 4) (Nat.le_refl _) (Nat.le_refl _)) (by omega) (by omega) (by omega) (st := []) (Nat.le_of_ble_eq_true rfl) rfl (kr_A fun r29 w29 hw29 => ?_) kx_A
            obtain ⟨hra29, hln29, hne29, vz29, zs29, hco29, hcn29, hyl29⟩ := hw29
            have h19_29 := (hne29 19 (gl h19_25)).trans h19_25
            have h20_29 := (hne29 20 (gl h20_25)).trans h20_25
            have h21_29 := (hne29 21 (gl h21_25)).trans h21_25
            have h22_29 := (hne29 22 (gl h22_25)).trans h22_25
            have hbb_29 := (hne29 b (gl hb_25)).trans hb_25
            have hF29 := hF19.gr hln29 hne29
            exact J_aret (pc := 86) dX8_ringText_86 rfl rfl rfl ⟨rfl, nI (tW 0 0), ⟨h19_29, h20_29, h21_29, h22_29, hbb_29, hbl_25, hb3_25⟩, hF29⟩
          · have h58 : g52 ≠ K := fun e => absurd (show y4 = q3 by rw [hv52_2, e]; exact hK3) (by assumption)
            refine J_aload_n (pc := 58) dX8_ringText_58 rfl rfl rfl ?_
            refine J_ldcS (pc := 59) (M := mX8_ringText) (a := 6) (tx := " ") dX8_ringText_59 (List.mem_cons_of_mem _ List.mem_cons_self) ?_
            obtain ⟨os30, t30, z30, ho130, ho230, ho330, ho430⟩ := hXO.2.2.2
            have hgf32 := gL_d (k_52 + os30.length) b_52.length
            have hB131 := hB20.2.2.2.1
            have hB231 := hB20.2.2.2.2.1
            have hB331 := hB20.2.2.2.2.2
            refine J_callV (pc := 61) (M := mX8_ringText) (as := [.retAddr 6]) dX8_ringText_61 fw_J4_append_15ec4 fl_X8_151 fm_J4_append_15ec4 fe_J4_append_15ec4 hB20.1 (by decide) rfl rfl rfl (c_J4_append_15ec4 hs (d := d - 1) (by omega) (a := a30) (v := v_52) (c := k_52) (bs := b_52) (w := w17) hB20 6 t30 z30 os30 ho130 ho230 ho430 (by omega) (by omega) (kc := ((gL (k_52 + os30.length) b_52.length - b_52.length) / 18)) (ks := (2 * (gL (k_52 + os30.length) b_52.length - b_52.length))) (Nat.le_refl _) (Nat.le_refl _)) (by omega) (by omega) (by omega) (st := []) (Nat.le_of_ble_eq_true rfl) rfl (kr_A fun r31 w31 hw31 => ?_) kx_A
            obtain ⟨hra31, v31', ys31, hB31, hFc31, hvv31, hp31⟩ := hw31
            obtain rfl := hra31.symm
            have hgl31 := hFc31.1
            have hB431 := hB31.2.2.2.1
            have hB531 := hB31.2.2.2.2.2
            have hB631 := hB31.2.2.2.2.1
            have h19_31 := (hFc31.2 19 (by omega) (by omega) (gl h19_25)).trans h19_25
            have h20_31 := (hFc31.2 20 (by omega) (by omega) (gl h20_25)).trans h20_25
            have h21_31 := (hFc31.2 21 (by omega) (by omega) (gl h21_25)).trans h21_25
            have h22_31 := (hFc31.2 22 (by omega) (by omega) (gl h22_25)).trans h22_25
            have hbb_31 := (hFc31.2 b (by omega) (by omega) (gl hb_25)).trans hb_25
            have hF31 := hF19.sb hFc31 (by omega) (by omega)
            refine J_iload (pc := 64) dX8_ringText_64 rfl ?_
            have hgf34 := gL_d ((k_52 + os30.length) + dgs y4) ys31.length
            have hgf35 := dgs_le y4
            have hgf36 := dgs_1 (x := y4) (by omega)
            have hB133 := hB31.2.2.2.1
            have hB233 := hB31.2.2.2.2.1
            have hB333 := hB31.2.2.2.2.2
            refine J_callV (pc := 66) (M := mX8_ringText) (as := [.int (nI y4)]) dX8_ringText_66 fw_J4_append_bf812 fl_X8_155 fm_J4_append_bf812 fe_J4_append_bf812 hB31.1 (by decide) rfl rfl rfl (c_J4_append_bf812 hs (d := d - 1) (by omega) hXO (a := a30) (v := v31') (c := k_52 + os30.length) (bs := ys31) (w := w31) hB31 y4 (by omega) (by omega) (kc := ((gL ((k_52 + os30.length) + dgs y4) ys31.length - ys31.length) / 18)) (ks := (2 * (gL ((k_52 + os30.length) + dgs y4) ys31.length - ys31.length))) (Nat.le_refl _) (Nat.le_refl _)) (by omega) (by omega) (by omega) (st := []) (Nat.le_of_ble_eq_true rfl) rfl (kr_A fun r33 w33 hw33 => ?_) kx_A
            obtain ⟨hra33, v33', ys33, hB33, hFc33, hvv33, hp33⟩ := hw33
            obtain rfl := hra33.symm
            have hgl33 := hFc33.1
            have hB433 := hB33.2.2.2.1
            have hB533 := hB33.2.2.2.2.2
            have hB633 := hB33.2.2.2.2.1
            have h19_33 := (hFc33.2 19 (by omega) (by omega) (gl h19_31)).trans h19_31
            have h20_33 := (hFc33.2 20 (by omega) (by omega) (gl h20_31)).trans h20_31
            have h21_33 := (hFc33.2 21 (by omega) (by omega) (gl h21_31)).trans h21_31
            have h22_33 := (hFc33.2 22 (by omega) (by omega) (gl h22_31)).trans h22_31
            have hbb_33 := (hFc33.2 b (by omega) (by omega) (gl hbb_31)).trans hbb_31
            have hF33 := hF31.sb hFc33 (by omega) (by omega)
            refine J_pop (pc := 69) dX8_ringText_69 rfl ?_
            refine J_aload_n (pc := 70) dX8_ringText_70 rfl rfl rfl ?_
            refine J_iload_n (pc := 71) dX8_ringText_71 rfl rfl ?_
            refine J_iload (pc := 72) dX8_ringText_72 rfl ?_
            refine J_callV0 (pc := 74) (M := mX8_ringText) (as := [.int (nI q1), .int (nI y4)]) dX8_ringText_74 fw_X8_at fl_X8_82 fm_X8_at fe_X8_at h19_33 (by decide) rfl rfl rfl (c_X8_at hs (d := d - 1) (Nat.le_trans (by decide) hdm) (w := w33) (n := n) (mv := mv) (rw := rw) (nx := nx) (b := b) (bt := bt) (kn := kn) (en := en) (dn := dn) (rf := rf) (kk := kk) (th := nI (tW 0 0)) ⟨h19_33, h20_33, h21_33, h22_33, hbb_33, hbl_25, hb3_25⟩ hn1 hn2 gm gr gx q1 y4 (by first | assumption | omega) (by first | assumption | omega) (kc := 0) (ks := 0)) hdp (st := []) (Nat.le_of_ble_eq_true rfl) rfl (kr_P fun v37 hv37 => ?_) kx_I
            subst hv37
            have hq38 := gm (q1 * 7 + y4)
            refine J_istore (pc := 77) dX8_ringText_77 (by decide) rfl ?_
            show J X mX8_ringText d (kc15 - ((gL (k_52 + os30.length) b_52.length - b_52.length) / 18) - ((gL ((k_52 + os30.length) + dgs y4) ys31.length - ys31.length) / 18)) (ks16 - (2 * (gL (k_52 + os30.length) b_52.length - b_52.length)) - (2 * (gL ((k_52 + os30.length) + dgs y4) ys31.length - ys31.length))) 79 [some (.ref 19), some (.int (nI q1)), some (.int (nI q3)), some (.ref a30), some (.int (nI (mv (q1 * 7 + y4))))] [] w33 _
            refine J_goto (pc := 79) (tgt := 52) dX8_ringText_79 (by decide) ?_
            exact J_sub (L' := [some (.ref 19), some (.int (nI q1)), some (.int (nI q3)), some (.ref a30), some (.int (nI (mv (q1 * 7 + y4))))]) ⟨rfl, ⟨rfl, ⟨rfl, ⟨rfl, ⟨rfl, trivial⟩⟩⟩⟩⟩ (ihlp52_14 _ _ w33 v33' (k_52 + os30.length + dgs y4) ys33 (mv (q1 * 7 + y4)) (g52 + 1) ⟨h19_33, h20_33, h21_33, h22_33, hbb_33, hbl_25, hb3_25⟩ hF33 hB33 (by omega) (by first | exact pot_k2 (by assumption) (by assumption) (by assumption) | exact pot_k1 (by assumption) (by assumption) | assumption | omega) (by first | exact pot_s2 (by assumption) (by assumption) (by assumption) | exact pot_s1 (by assumption) (by assumption) | assumption | omega) (by first | assumption | omega) (by first | assumption | omega) (by rw [hv52_2]; rfl) (by exact (hy0 q1 (by omega)).1 y4 hv52_3) (by first | assumption | omega) (by omega))
      exact J_sub (L' := [some (.ref 19), some (.int (nI q1)), some (.int (nI q3)), some (.ref a30), some (.int (nI (mv (q1 * 7 + q3))))]) ⟨rfl, ⟨rfl, ⟨rfl, ⟨rfl, ⟨rfl, trivial⟩⟩⟩⟩⟩ (lp52_14 _ _ _ w8 v8' (0 + dgs q3) ys8 (mv (q1 * 7 + q3)) 1 ⟨h19_8, h20_8, h21_8, h22_8, hbb_8, hbl_5, hb3_5⟩ hF8 hB8 (by omega) (by omega) (by omega) (by first | assumption | omega) (by first | assumption | omega) (by rfl) (by exact (hy0 q1 (by omega)).1 q3 (by omega)) (by first | assumption | omega) (Nat.lt_succ_self _))
