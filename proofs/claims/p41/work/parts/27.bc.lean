/-! texts of the class -/
set_option maxRecDepth 100000 in
set_option maxHeartbeats 40000000 in
theorem c_X6_rings_atok {X : jX} (hs : X.1.stackTraces = false) {d : Nat} (hd : 14 ≤ d) (hXO : XO X) {n : Nat} {e r q : Int32} (hn1 : 2 ≤ n) (hn2 : n ≤ 7) {w : List jC} (hS : SH (rX n e r q) w) (a : Nat) (hy0 : a < 6) {kc ks : Nat} (hkc : 40 ≤ kc) (hks : 1500 ≤ ks) : jMet X mX6_rings d kc ks [.ref 0, .int (nI a)] w (pA (fun rr w' => SH (rX n e r q) w' ∧ Fr kX w w' ∧ ∃ (vz : Nat) (zs : List Int32), w'[rr]? = some (.inr (0, [.ref vz, .int (nI 0), .int (nI 0), .int (nI 0)])) ∧ w'[vz]? = some (.inl (1, zs)) ∧ zs.length ≤ 270)) := by
  refine jMet_of hs (by decide +kernel) (Nat.le_of_ble_eq_true rfl) (L := [some (.ref 0), some (.int (nI a)), none, none, none]) rfl ?_
  have hG : Fr kX w w := Fr.rf
  refine J_iload_n (pc := 0) dX6_rings_0 rfl rfl ?_
  refine J_callS0 (pc := 1) (M := mX6_rings) (as := [.int (nI a)]) dX6_rings_1 fw_X6_needCell fl_X6_67 fs_X6_needCell rfl (c_X6_needCell_atok hs (d := d - 1) (by omega) (w := w) a (by omega) (kc := 0) (ks := 0)) (by omega) (st := []) (Nat.le_of_ble_eq_true rfl) rfl (kr_V fun w1 hw1 => ?_) kx_V
  obtain rfl := hw1.symm
  have qS2 : 18 < w.length := hS.lt (by show 18 < 19; decide)
  have qG2 := hG.1
  refine J_newO (pc := 4) (M := mX6_rings) (fs := [.null, .int (nI 0), .int (nI 0), .int (nI 0)]) dX6_rings_4 kC1 fc_X6_147 fi_J4 fz_J4 df_J4 (by omega) (by omega) (fun a4 w2 ha2 hln2 hc2 hne2 => ?_)
  have hS2 := hS.gr (fun i hi => hne2 i (by omega))
  have hG2 := hG.gr (by omega) (fun i hi => hne2 i (by omega))
  have qa2 : 19 ≤ a4 := by omega
  have qw2 : w.length ≤ a4 := by omega
  have qww : 19 ≤ w.length := Nat.lt_of_lt_of_le (by decide : 18 < 19) (Nat.succ_le_of_lt (hS.lt (a := 18) (by show 18 < 19; decide)))
  refine J_dup (pc := 7) dX6_rings_7 rfl ?_
  refine J_callI (pc := 8) (M := mX6_rings) (as := []) dX6_rings_8 fw_J4_init_da8c8 fl_X6_149 fm_J4_init_da8c8 rfl rfl rfl (c_J4_init_da8c8 hs (d := d - 1) (by omega) (w := w2) a4 hc2 (kc := 1) (ks := 16) (Nat.le_refl _) (Nat.le_refl _)) (by omega) (by omega) (by omega) (st := [.ref a4]) (Nat.le_of_ble_eq_true rfl) rfl (kr_V fun w3 hw3 => ?_) kx_V
  obtain ⟨v3', ys3, hB3, hFc3, hvv3⟩ := hw3
  have hgl3 := hFc3.1
  have hbl3 := hB3.2.2.2.2.1
  have hS3 := rX_fs hS2 hFc3 (by omega) (by omega)
  have hG3 := hG2.sb hFc3 (by omega) (by omega)
  refine J_astore_n (pc := 11) dX6_rings_11 rfl (by decide) rfl rfl ?_
  show J X mX6_rings d (kc - 1 - 1) (ks - 4 - 16) 12 [some (.ref 0), some (.int (nI a)), some (.ref a4), none, none] [] w3 _
  refine J_iconst (pc := 12) (v := nI 1) dX6_rings_12 (by decide) ?_
  refine J_istore_n (pc := 13) dX6_rings_13 rfl (by decide) rfl ?_
  show J X mX6_rings d (kc - 1 - 1) (ks - 4 - 16) 14 [some (.ref 0), some (.int (nI a)), some (.ref a4), some (.int (nI 1)), none] [] w3 _
  have lp14_14 : ∀ (fuel : Nat) (kc4 ks5 : Nat) (w6 : List jC) (v_14 k_14 : Nat) (b_14 : List Int32) (c3 : Nat), (SH (rX n e r q) w6) → (Fr kX w w6) → (SBp a4 v_14 (nI 0) k_14 b_14 w6) → (w.length ≤ v_14) → ((620 - b_14.length) / 18 ≤ kc4) → (1240 - 2 * b_14.length ≤ ks5) → (1 ≤ c3) → (c3 ≤ n + 1) → (k_14 ≤ 14 * (c3 - 1)) → (n + 1 - c3 < fuel) → J X mX6_rings d kc4 ks5 14 [some (.ref 0), some (.int (nI a)), some (.ref a4), some (.int (nI c3)), none] [] w6 (pA (fun rr w' => SH (rX n e r q) w' ∧ Fr kX w w' ∧ ∃ (vz : Nat) (zs : List Int32), w'[rr]? = some (.inr (0, [.ref vz, .int (nI 0), .int (nI 0), .int (nI 0)])) ∧ w'[vz]? = some (.inl (1, zs)) ∧ zs.length ≤ 270)) := by
    intro fuellp14_14
    induction fuellp14_14 with
    | zero => intros; omega
    | succ fuellp14_14 ihlp14_14 =>
      intro kc4 ks5 w6 v_14 k_14 b_14 c3 hS7 hG8 hB9 hv10 hr11 hr12 hv14_0 hv14_1 hv14_2 hf13
      have qF15 := hG8.1
      refine J_iload_n (pc := 14) dX6_rings_14 rfl rfl ?_
      refine J_aload_n (pc := 15) dX6_rings_15 rfl rfl rfl ?_
      obtain ⟨_, hc16, rfl⟩ := hS7 0 _ rfl
      refine J_get (pc := 16) (k := 5) dX6_rings_16 kC7 (by decide) ff_X6_41 hc16 rfl ?_
      refine J_icmp_gtN (pc := 19) (tgt := 60) dX6_rings_19 (by decide) (by omega) (by omega) (fun ht17 => ?_) (fun hf18 => ?_)
      · refine J_aload_n (pc := 60) dX6_rings_60 rfl rfl rfl ?_
        have hB119 := hB9.2.2.2.1
        have hB319 := hB9.2.2.2.2.2
        refine J_callV (pc := 61) (M := mX6_rings) (as := []) dX6_rings_61 fw_J4_toString_0e30d fl_X6_154 fm_J4_toString_0e30d fe_J4_toString_0e30d hB9.1 (by decide) rfl rfl rfl (c_J4_toString_0e30d hs (d := d - 1) (by omega) (a := a4) (v := v_14) (c := k_14) (bs := b_14) (w := w6) hB9 (kc := 2) (ks := k_14 + 4) (Nat.le_refl _) (Nat.le_refl _)) (by omega) (by omega) (by omega) (st := []) (Nat.le_of_ble_eq_true rfl) rfl (kr_A fun r19 w19 hw19 => ?_) kx_A
        obtain ⟨hra19, hln19, hne19, vz19, zs19, hco19, hcn19, hyl19⟩ := hw19
        have hS19 := hS7.gr hne19
        have hG19 := hG8.gr hln19 hne19
        exact J_aret (pc := 64) dX6_rings_64 rfl rfl rfl ⟨hS19, hG19, vz19, zs19, hco19, hcn19, by omega⟩
      · refine J_aload_n (pc := 22) dX6_rings_22 rfl rfl rfl ?_
        refine J_get (pc := 23) (k := 0) dX6_rings_23 kC7 (by decide) ff_X6_9 hc16 rfl ?_
        refine J_iload_n (pc := 26) dX6_rings_26 rfl rfl ?_
        obtain ⟨_, hc20, xs20, rfl, hl20⟩ := hS7 1 _ rfl
        refine J_iald (pc := 27) dX6_rings_27 hc20 (nI_in (by omega) (by omega)) (J_absI fun x21 => ?_)
        refine J_iload_n (pc := 28) dX6_rings_28 rfl rfl ?_
        refine J_aload_n (pc := 29) dX6_rings_29 rfl rfl rfl ?_
        refine J_get (pc := 30) (k := 5) dX6_rings_30 kC7 (by decide) ff_X6_41 hc16 rfl ?_
        refine J_callS0 (pc := 33) (M := mX6_rings) (as := [.int x21, .int (nI c3), .int (nI n)]) dX6_rings_33 fw_X2_ringsOfLength fl_X6_158 fs_X2_ringsOfLength rfl (c_X2_ringsOfLength hs (d := d - 1) (by omega) (w := w6) x21 (nI c3) n (by omega) (kc := 0) (ks := 0)) (by omega) (st := []) (Nat.le_of_ble_eq_true rfl) rfl (kr_P fun v22 hv22 => ?_) kx_I
        obtain ⟨k22, rfl, hk22⟩ := hv22
        refine J_istore (pc := 36) dX6_rings_36 (by decide) rfl ?_
        show J X mX6_rings d kc4 ks5 38 [some (.ref 0), some (.int (nI a)), some (.ref a4), some (.int (nI c3)), some (.int (nI k22))] [] w6 _
        have lp38_33 : ∀ (fuel : Nat) (kc23 ks24 : Nat) (w25 : List jC) (v_38 k_38 : Nat) (b_38 : List Int32) (c4 : Nat), (SH (rX n e r q) w25) → (Fr kX w w25) → (SBp a4 v_38 (nI 0) k_38 b_38 w25) → (w.length ≤ v_38) → ((620 - b_38.length) / 18 ≤ kc23) → (1240 - 2 * b_38.length ≤ ks24) → (c4 ≤ 7) → (k_38 + 2 * c4 ≤ 14 * c3) → (c4 < fuel) → J X mX6_rings d kc23 ks24 38 [some (.ref 0), some (.int (nI a)), some (.ref a4), some (.int (nI c3)), some (.int (nI c4))] [] w25 (pA (fun rr w' => SH (rX n e r q) w' ∧ Fr kX w w' ∧ ∃ (vz : Nat) (zs : List Int32), w'[rr]? = some (.inr (0, [.ref vz, .int (nI 0), .int (nI 0), .int (nI 0)])) ∧ w'[vz]? = some (.inl (1, zs)) ∧ zs.length ≤ 270)) := by
          intro fuellp38_33
          induction fuellp38_33 with
          | zero => intros; omega
          | succ fuellp38_33 ihlp38_33 =>
            intro kc23 ks24 w25 v_38 k_38 b_38 c4 hS26 hG27 hB28 hv29 hr30 hr31 hv38_0 hv38_1 hf32
            have qF34 := hG27.1
            refine J_iload (pc := 38) dX6_rings_38 rfl ?_
            refine J_if_leN (pc := 40) (tgt := 54) dX6_rings_40 (by decide) (by omega) (fun ht35 => ?_) (fun hf36 => ?_)
            · refine J_iincN (pc := 54) (b := 1) dX6_rings_54 rfl (by decide) (by decide) rfl ?_
              show J X mX6_rings d kc23 ks24 57 [some (.ref 0), some (.int (nI a)), some (.ref a4), some (.int (nI (c3 + 1))), some (.int (nI c4))] [] w25 _
              refine J_goto (pc := 57) (tgt := 14) dX6_rings_57 (by decide) ?_
              exact J_sub (L' := [some (.ref 0), some (.int (nI a)), some (.ref a4), some (.int (nI (c3 + 1))), none]) ⟨rfl, ⟨rfl, ⟨rfl, ⟨rfl, trivial⟩⟩⟩⟩ (ihlp14_14 _ _ w25 v_38 k_38 b_38 (c3 + 1) hS26 hG27 hB28 (by omega) (by omega) (by omega) (by first | assumption | omega) (by first | assumption | omega) (by first | assumption | omega) (by omega))
            · refine J_aload_n (pc := 43) dX6_rings_43 rfl rfl rfl ?_
              refine J_iload_n (pc := 44) dX6_rings_44 rfl rfl ?_
              have hgf38 := gw_f k_38 c3 b_38.length
              have hgf39 := dgs_le c3
              have hgf40 := dgs_1 (x := c3) (by omega)
              have hB137 := hB28.2.2.2.1
              have hB237 := hB28.2.2.2.2.1
              have hB337 := hB28.2.2.2.2.2
              refine J_callS (pc := 45) (M := mX6_rings) (as := [.ref a4, .int (nI c3)]) dX6_rings_45 fw_X6_addWord fl_X6_150 fs_X6_addWord rfl (c_X6_addWord hs (d := d - 1) (by omega) hXO (a := a4) (v := v_38) (c := k_38) (bs := b_38) (w := w25) hB28 c3 (by omega) (by omega) (kc := ((gw k_38 c3 b_38.length - b_38.length) / 18)) (ks := (2 * (gw k_38 c3 b_38.length - b_38.length))) (Nat.le_refl _) (Nat.le_refl _)) (by omega) (by omega) (by omega) (st := []) (Nat.le_of_ble_eq_true rfl) rfl (kr_V fun w37 hw37 => ?_) kx_V
              obtain ⟨c37, v37', ys37, hB37, hFc37, hvv37, hc137, hc237, hp37⟩ := hw37
              have hgl37 := hFc37.1
              have hB437 := hB37.2.2.2.1
              have hB537 := hB37.2.2.2.2.2
              have hB637 := hB37.2.2.2.2.1
              have hS37 := rX_fs hS26 hFc37 (by omega) (by omega)
              have hG37 := hG27.sb hFc37 (by omega) (by omega)
              refine J_iincM (pc := 48) dX6_rings_48 rfl (by omega) (by decide) rfl ?_
              show J X mX6_rings d (kc23 - ((gw k_38 c3 b_38.length - b_38.length) / 18)) (ks24 - (2 * (gw k_38 c3 b_38.length - b_38.length))) 51 [some (.ref 0), some (.int (nI a)), some (.ref a4), some (.int (nI c3)), some (.int (nI (c4 - 1)))] [] w37 _
              refine J_goto (pc := 51) (tgt := 38) dX6_rings_51 (by decide) ?_
              exact J_sub (L' := [some (.ref 0), some (.int (nI a)), some (.ref a4), some (.int (nI c3)), some (.int (nI (c4 - 1)))]) ⟨rfl, ⟨rfl, ⟨rfl, ⟨rfl, ⟨rfl, trivial⟩⟩⟩⟩⟩ (ihlp38_33 _ _ w37 v37' c37 ys37 (c4 - 1) hS37 hG37 hB37 (by omega) (by omega) (by omega) (by first | assumption | omega) (by first | assumption | omega) (by omega))
        exact J_sub (L' := [some (.ref 0), some (.int (nI a)), some (.ref a4), some (.int (nI c3)), some (.int (nI k22))]) ⟨rfl, ⟨rfl, ⟨rfl, ⟨rfl, ⟨rfl, trivial⟩⟩⟩⟩⟩ (lp38_33 _ _ _ w6 v_14 k_14 b_14 k22 hS7 hG8 hB9 (by omega) (by omega) (by omega) (by first | assumption | omega) (by first | assumption | omega) (Nat.lt_succ_self _))
  exact J_sub (L' := [some (.ref 0), some (.int (nI a)), some (.ref a4), some (.int (nI 1)), none]) ⟨rfl, ⟨rfl, ⟨rfl, ⟨rfl, trivial⟩⟩⟩⟩ (lp14_14 _ _ _ w3 v3' 0 ys3 1 hS3 hG3 hB3 (by omega) (by omega) (by omega) (by first | assumption | omega) (by first | assumption | omega) (by first | assumption | omega) (Nat.lt_succ_self _))
