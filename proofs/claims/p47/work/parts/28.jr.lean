section
/-! how long the text of rings is -/
def kA (_ : Nat) : Prop := True
set_option maxRecDepth 100000 in
set_option maxHeartbeats 4000000 in
theorem c_X6_addWord_atz {X : jX} (hs : X.1.stackTraces = false) {d : Nat} (hd : 6 ≤ d) (hXO : XO X) {a v : Nat} {ml : Int32} {c : Nat} {bs : List Int32} {w : List jC} (hB : SBp a v ml c bs w) (x : Nat) (hy0 : x < 10000) (hy1 : c ≤ 124) {kc ks : Nat} (hkc : (gw c x bs.length - bs.length) / 18 ≤ kc) (hks : 2 * (gw c x bs.length - bs.length) ≤ ks) : jMet X mX6_addWord d kc ks [.ref a, .int (nI x)] w (pV (fun w' => ∃ (c' : Nat) (v' : Nat) (bs' : List Int32), SBp a v' ml (c') bs' w' ∧ FS a v w w' ∧ (v' = v ∨ w.length ≤ v') ∧ c < c' ∧ ((c = 0 ∧ c' = dgs x) ∨ (0 < c ∧ c' = c + 1 + dgs x)) ∧ bs'.length = gw c x bs.length)) := by
  refine jMet_of hs (by decide +kernel) (Nat.le_of_ble_eq_true rfl) (L := [some (.ref a), some (.int (nI x))]) rfl ?_
  have hdm : 5 ≤ d - 1 := by omega
  have hdp : d - 1 + 1 ≤ d := by omega
  obtain ⟨h_a, h_v, hfit, hB1, hB2, hB3⟩ := hB
  have hav : a ≠ v := fun e => by subst e; rw [h_a] at h_v; cases h_v
  have hga := gl h_a
  have hgv := gl h_v
  have hF : FS a v w w := FS.rf
  have hdl := dgs_le x
  have hgw := gw_d c x bs.length
  have hg1 := gL_d (c + 1) bs.length
  have hg2 := gL_d (c + 1 + dgs x) (gL (c + 1) bs.length)
  refine J_aload_n (pc := 0) dX6_addWord_0 rfl rfl rfl ?_
  refine J_callV (pc := 1) (M := mX6_addWord) (as := []) dX6_addWord_1 fw_J4_length_8abf5 fl_X6_301 fm_J4_length_8abf5 fe_J4_length_8abf5 h_a (by decide) rfl rfl rfl (c_J4_length_8abf5 hs (d := d - 1) (by omega) (a := a) (v := v) (c := c) (bs := bs) (w := w) ⟨h_a, h_v, hfit, (by omega), (by omega), (by omega)⟩  (kc := 0) (ks := 0)) (by omega) (by omega) (by omega) (st := []) (Nat.le_of_ble_eq_true rfl) rfl (kr_P fun v1 hv1 => ?_) kx_I
  subst hv1
  refine J_if_leN (pc := 4) (tgt := 14) dX6_addWord_4 (by decide) (by omega) (fun ht2 => ?_) (fun hf3 => ?_)
  · refine J_aload_n (pc := 14) dX6_addWord_14 rfl rfl rfl ?_
    refine J_iload_n (pc := 15) dX6_addWord_15 rfl rfl ?_
    refine J_callV (pc := 16) (M := mX6_addWord) (as := [.int (nI x)]) dX6_addWord_16 fw_J4_append_bf812 fl_X6_306 fm_J4_append_bf812 fe_J4_append_bf812 h_a (by decide) rfl rfl rfl (c_J4_append_bf812 hs (d := d - 1) (by omega) hXO (a := a) (v := v) (c := c) (bs := bs) (w := w) ⟨h_a, h_v, hfit, (by omega), (by omega), (by omega)⟩ x (by first | assumption | omega) (by first | assumption | omega) (kc := ((gL (c + dgs x) bs.length - bs.length) / 18)) (ks := (2 * (gL (c + dgs x) bs.length - bs.length))) (Nat.le_refl _) (Nat.le_refl _)) (by omega) (by omega) (by omega) (st := []) (Nat.le_of_ble_eq_true rfl) rfl (kr_A fun r4 w4 hw4 => ?_) kx_A
    obtain ⟨hra4, v4', ys4, ⟨h_a4, h_v4, hfit4, hB14, hB24, hB34⟩, hFc4, hvv4, hp4_0⟩ := hw4
    obtain rfl := hra4.symm
    have hav4 : a ≠ v4' := fun e => by rw [e] at h_a4; rw [h_a4] at h_v4; cases h_v4
    have hgl4 := hFc4.1
    have hgf5 := gL_d (c + dgs x) bs.length
    have hF4 := hF.tr hFc4 (by omega)
    refine J_pop (pc := 19) dX6_addWord_19 rfl ?_
    exact J_vret (pc := 20) dX6_addWord_20 rfl (⟨c + dgs x, v4', ys4, ⟨h_a4, h_v4, hfit4, (by omega), (by omega), (by omega)⟩, hF4, (by omega), (by omega), (by omega), (by omega)⟩)
  · refine J_aload_n (pc := 7) dX6_addWord_7 rfl rfl rfl ?_
    refine J_bipush (pc := 8) (v := nI 32) dX6_addWord_8 (by decide) ?_
    refine J_callV (pc := 10) (M := mX6_addWord) (as := [.int (nI 32)]) dX6_addWord_10 fw_J4_append_cf468 fl_X6_302 fm_J4_append_cf468 fe_J4_append_cf468 h_a (by decide) rfl rfl rfl (c_J4_append_cf468 hs (d := d - 1) (by omega) (a := a) (v := v) (c := c) (bs := bs) (w := w) ⟨h_a, h_v, hfit, (by omega), (by omega), (by omega)⟩ 32 (by first | assumption | omega) (by first | assumption | omega) (kc := ((gL (c + 1) bs.length - bs.length) / 18)) (ks := (2 * (gL (c + 1) bs.length - bs.length))) (Nat.le_refl _) (Nat.le_refl _)) (by omega) (by omega) (by omega) (st := []) (Nat.le_of_ble_eq_true rfl) rfl (kr_A fun r6 w6 hw6 => ?_) kx_A
    obtain ⟨hra6, v6', ys6, ⟨h_a6, h_v6, hfit6, hB16, hB26, hB36⟩, hFc6, hvv6, hp6_0⟩ := hw6
    obtain rfl := hra6.symm
    have hav6 : a ≠ v6' := fun e => by rw [e] at h_a6; rw [h_a6] at h_v6; cases h_v6
    have hgl6 := hFc6.1
    have hgf7 := gL_d (c + 1) bs.length
    have hF6 := hF.tr hFc6 (by omega)
    have hrw : gL (c + 1 + dgs x) (gL (c + 1) bs.length) = gL (c + 1 + dgs x) ys6.length := by rw [hp6_0]
    refine J_pop (pc := 13) dX6_addWord_13 rfl ?_
    refine J_aload_n (pc := 14) dX6_addWord_14 rfl rfl rfl ?_
    refine J_iload_n (pc := 15) dX6_addWord_15 rfl rfl ?_
    refine J_callV (pc := 16) (M := mX6_addWord) (as := [.int (nI x)]) dX6_addWord_16 fw_J4_append_bf812 fl_X6_306 fm_J4_append_bf812 fe_J4_append_bf812 h_a6 (by decide) rfl rfl rfl (c_J4_append_bf812 hs (d := d - 1) (by omega) hXO (a := a) (v := v6') (c := c + 1) (bs := ys6) (w := w6) ⟨h_a6, h_v6, hfit6, (by omega), (by omega), (by omega)⟩ x (by first | assumption | omega) (by first | assumption | omega) (kc := ((gL ((c + 1) + dgs x) ys6.length - ys6.length) / 18)) (ks := (2 * (gL ((c + 1) + dgs x) ys6.length - ys6.length))) (Nat.le_refl _) (Nat.le_refl _)) (by omega) (by omega) (by omega) (st := []) (Nat.le_of_ble_eq_true rfl) rfl (kr_A fun r8 w8 hw8 => ?_) kx_A
    obtain ⟨hra8, v8', ys8, ⟨h_a8, h_v8, hfit8, hB18, hB28, hB38⟩, hFc8, hvv8, hp8_0⟩ := hw8
    obtain rfl := hra8.symm
    have hav8 : a ≠ v8' := fun e => by rw [e] at h_a8; rw [h_a8] at h_v8; cases h_v8
    have hgl8 := hFc8.1
    have hgf9 := gL_d ((c + 1) + dgs x) ys6.length
    have hF8 := hF6.tr hFc8 (by omega)
    refine J_pop (pc := 19) dX6_addWord_19 rfl ?_
    exact J_vret (pc := 20) dX6_addWord_20 rfl (⟨(c + 1) + dgs x, v8', ys8, ⟨h_a8, h_v8, hfit8, (by omega), (by omega), (by omega)⟩, hF8, (by omega), (by omega), (by omega), (by omega)⟩)
set_option maxRecDepth 100000 in
set_option maxHeartbeats 40000000 in
theorem c_X6_rings_atz {X : jX} (hs : X.1.stackTraces = false) {d : Nat} (hd : 14 ≤ d) (hXO : XO X) {n : Nat} {e r q : Int32} {cm : Nat → Nat} (hn1 : 2 ≤ n) (hn2 : n ≤ 7) (hcm : ∀ c, c < 6 → Mv n (cm c)) {w : List jC} (hS : SH (rX n e r q) w) (h1 : w[1]? = some (aF 6 cm)) (a : Nat) (hy0 : a < 6) {kc ks : Nat} (hkc : 40 ≤ kc) (hks : 1500 ≤ ks) : jMet X mX6_rings d kc ks [.ref 0, .int (nI a)] w (pA (fun rr w' => Fr kA w w' ∧ ∃ (vz : Nat) (zs : List Int32), w'[rr]? = some (.inr (0, [.ref vz, .int (nI 0), .int (nI 0), .int (nI 0)])) ∧ w'[vz]? = some (.inl (1, zs)) ∧ zs.length = 2 * hr (cm a) n - 1)) := by
  refine jMet_of hs (by decide +kernel) (Nat.le_of_ble_eq_true rfl) (L := [some (.ref 0), some (.int (nI a)), none, none, none]) rfl ?_
  have hsb : ∀ c, c ≤ n → sm (fun j => rl (cm a) (j + 1) n) c ≤ 7 := fun c hc => by
    have h2 := sm_le (fun j => rl (cm a) (j + 1) n) n hc
    rw [rl_sum hn2 (hcm a hy0)] at h2
    have h3 := hr_le (cm a) n
    omega
  have hG : Fr kA w w := Fr.rf
  refine J_iload_n (pc := 0) dX6_rings_0 rfl rfl ?_
  refine J_callS0 (pc := 1) (M := mX6_rings) (as := [.int (nI a)]) dX6_rings_1 fw_X6_needCell fl_X6_67 fs_X6_needCell rfl (c_X6_needCell_atok hs (d := d - 1) (by omega) (w := w) a (by omega) (kc := 0) (ks := 0)) (by omega) (st := []) (Nat.le_of_ble_eq_true rfl) rfl (kr_V fun w1 hw1 => ?_) kx_V
  obtain rfl := hw1.symm
  have qS2 : 18 < w.length := hS.lt (by show 18 < 19; decide)
  have qG2 := hG.1
  refine J_newO (pc := 4) (M := mX6_rings) (fs := [.null, .int (nI 0), .int (nI 0), .int (nI 0)]) dX6_rings_4 kC1 fc_X6_147 fi_J4 fz_J4 df_J4 (by omega) (by omega) (fun a4 w2 ha2 hln2 hc2 hne2 => ?_)
  have hS2 := hS.gr (fun i hi => hne2 i (by omega))
  have hG2 := hG.gr (by omega) (fun i hi => hne2 i (by omega))
  have qa2 : 19 ≤ a4 := by omega
  have qw2 : w.length ≤ a4 := by omega
  have qww : 19 ≤ w.length := Nat.lt_of_lt_of_le (by decide : 18 < 19) (Nat.succ_le_of_lt (hS.lt (a := 18) (by show 18 < 19; decide)))
  refine J_dup (pc := 7) dX6_rings_7 rfl ?_
  refine J_callI (pc := 8) (M := mX6_rings) (as := []) dX6_rings_8 fw_J4_init_da8c8 fl_X6_149 fm_J4_init_da8c8 rfl rfl rfl (c_J4_init_da8c8 hs (d := d - 1) (by omega) (w := w2) a4 hc2 (kc := 1) (ks := 16) (Nat.le_refl _) (Nat.le_refl _)) (by omega) (by omega) (by omega) (st := [.ref a4]) (Nat.le_of_ble_eq_true rfl) rfl (kr_V fun w3 hw3 => ?_) kx_V
  obtain ⟨v3', ys3, hB3, hFc3, hvv3⟩ := hw3
  have hgl3 := hFc3.1
  have hbl3 := hB3.2.2.2.2.1
  have hS3 := rX_fs hS2 hFc3 (by omega) (by omega)
  have hG3 := hG2.sb hFc3 (by omega) (by omega)
  refine J_astore_n (pc := 11) dX6_rings_11 rfl (by decide) rfl rfl ?_
  show J X mX6_rings d (kc - 1 - 1) (ks - 4 - 16) 12 [some (.ref 0), some (.int (nI a)), some (.ref a4), none, none] [] w3 _
  refine J_iconst (pc := 12) (v := nI 1) dX6_rings_12 (by decide) ?_
  refine J_istore_n (pc := 13) dX6_rings_13 rfl (by decide) rfl ?_
  show J X mX6_rings d (kc - 1 - 1) (ks - 4 - 16) 14 [some (.ref 0), some (.int (nI a)), some (.ref a4), some (.int (nI 1)), none] [] w3 _
  have lp14_14 : ∀ (fuel : Nat) (kc4 ks5 : Nat) (w6 : List jC) (v_14 k_14 : Nat) (b_14 : List Int32) (c3 : Nat), (SH (rX n e r q) w6) → (Fr kA w w6) → (SBp a4 v_14 (nI 0) k_14 b_14 w6) → (w.length ≤ v_14) → ((620 - b_14.length) / 18 ≤ kc4) → (1240 - 2 * b_14.length ≤ ks5) → (1 ≤ c3) → (c3 ≤ n + 1) → (k_14 = 2 * sm (fun j => rl (cm a) (j + 1) n) (c3 - 1) - 1) → (n + 1 - c3 < fuel) → J X mX6_rings d kc4 ks5 14 [some (.ref 0), some (.int (nI a)), some (.ref a4), some (.int (nI c3)), none] [] w6 (pA (fun rr w' => Fr kA w w' ∧ ∃ (vz : Nat) (zs : List Int32), w'[rr]? = some (.inr (0, [.ref vz, .int (nI 0), .int (nI 0), .int (nI 0)])) ∧ w'[vz]? = some (.inl (1, zs)) ∧ zs.length = 2 * hr (cm a) n - 1)) := by
    intro fuellp14_14
    induction fuellp14_14 with
    | zero => intros; omega
    | succ fuellp14_14 ihlp14_14 =>
      intro kc4 ks5 w6 v_14 k_14 b_14 c3 hS7 hG8 hB9 hv10 hr11 hr12 hv14_0 hv14_1 hv14_2 hf13
      have qF15 := hG8.1
      refine J_iload_n (pc := 14) dX6_rings_14 rfl rfl ?_
      refine J_aload_n (pc := 15) dX6_rings_15 rfl rfl rfl ?_
      obtain ⟨_, hc16, rfl⟩ := hS7 0 _ rfl
      refine J_get (pc := 16) (k := 5) dX6_rings_16 kC7 (by decide) ff_X6_41 hc16 rfl ?_
      refine J_icmp_gtN (pc := 19) (tgt := 60) dX6_rings_19 (by decide) (by omega) (by omega) (fun ht17 => ?_) (fun hf18 => ?_)
      · refine J_aload_n (pc := 60) dX6_rings_60 rfl rfl rfl ?_
        have hB119 := hB9.2.2.2.1
        have hw9 := hsb (c3 - 1) (by omega)
        have hB319 := hB9.2.2.2.2.2
        refine J_callV (pc := 61) (M := mX6_rings) (as := []) dX6_rings_61 fw_J4_toString_0e30d fl_X6_154 fm_J4_toString_0e30d fe_J4_toString_0e30d hB9.1 (by decide) rfl rfl rfl (c_J4_toString_0e30d hs (d := d - 1) (by omega) (a := a4) (v := v_14) (c := k_14) (bs := b_14) (w := w6) hB9 (kc := 2) (ks := k_14 + 4) (Nat.le_refl _) (Nat.le_refl _)) (by omega) (by omega) (by omega) (st := []) (Nat.le_of_ble_eq_true rfl) rfl (kr_A fun r19 w19 hw19 => ?_) kx_A
        obtain ⟨hra19, hln19, hne19, vz19, zs19, hco19, hcn19, hyl19⟩ := hw19
        have hS19 := hS7.gr hne19
        have hG19 := hG8.gr hln19 hne19
        exact J_aret (pc := 64) dX6_rings_64 rfl rfl rfl ⟨hG19, vz19, zs19, hco19, hcn19, by rw [hyl19, hv14_2, show c3 - 1 = n by omega, rl_sum hn2 (hcm a hy0)]⟩
      · refine J_aload_n (pc := 22) dX6_rings_22 rfl rfl rfl ?_
        refine J_get (pc := 23) (k := 0) dX6_rings_23 kC7 (by decide) ff_X6_9 hc16 rfl ?_
        refine J_iload_n (pc := 26) dX6_rings_26 rfl rfl ?_
        have hc20 := (hG8.2 1 trivial (by omega)).trans h1
        refine J_ialdF (pc := 27) dX6_rings_27 hc20 (by omega) (by decide) ?_
        refine J_iload_n (pc := 28) dX6_rings_28 rfl rfl ?_
        refine J_aload_n (pc := 29) dX6_rings_29 rfl rfl rfl ?_
        refine J_get (pc := 30) (k := 5) dX6_rings_30 kC7 (by decide) ff_X6_41 hc16 rfl ?_
        refine J_callS0 (pc := 33) (M := mX6_rings) (as := [.int (nI (cm a)), .int (nI c3), .int (nI n)]) dX6_rings_33 fw_X2_ringsOfLength fl_X6_158 fs_X2_ringsOfLength rfl (c_X2_ringsOfLength_atx hs (d := d - 1) (by omega) (w := w6) (cm a) c3 n (hcm a hy0).1 ((hcm a hy0).P7 hn2) (by omega) hn2 (kc := 0) (ks := 0)) (by omega) (st := []) (Nat.le_of_ble_eq_true rfl) rfl (kr_P fun v22 hv22 => ?_) kx_I
        obtain ⟨k22, hke, hkv⟩ : ∃ k, k = rl (cm a) c3 n ∧ v22 = nI k := ⟨_, rfl, hv22⟩
        subst hkv
        have hw1 := hsb (c3 - 1) (by omega)
        have hw2 := hsb c3 (by omega)
        have hws : sm (fun j => rl (cm a) (j + 1) n) c3 = sm (fun j => rl (cm a) (j + 1) n) (c3 - 1) + rl (cm a) c3 n := by
          obtain ⟨m3, rfl⟩ : ∃ m, c3 = m + 1 := ⟨c3 - 1, by omega⟩
          rfl
        rw [← hke] at hws
        refine J_istore (pc := 36) dX6_rings_36 (by decide) rfl ?_
        show J X mX6_rings d kc4 ks5 38 [some (.ref 0), some (.int (nI a)), some (.ref a4), some (.int (nI c3)), some (.int (nI k22))] [] w6 _
        have lp38_33 : ∀ (fuel : Nat) (kc23 ks24 : Nat) (w25 : List jC) (v_38 k_38 : Nat) (b_38 : List Int32) (c4 : Nat), (SH (rX n e r q) w25) → (Fr kA w w25) → (SBp a4 v_38 (nI 0) k_38 b_38 w25) → (w.length ≤ v_38) → ((620 - b_38.length) / 18 ≤ kc23) → (1240 - 2 * b_38.length ≤ ks24) → (c4 ≤ k22) → (k_38 = 2 * (sm (fun j => rl (cm a) (j + 1) n) (c3 - 1) + (k22 - c4)) - 1) → (c4 < fuel) → J X mX6_rings d kc23 ks24 38 [some (.ref 0), some (.int (nI a)), some (.ref a4), some (.int (nI c3)), some (.int (nI c4))] [] w25 (pA (fun rr w' => Fr kA w w' ∧ ∃ (vz : Nat) (zs : List Int32), w'[rr]? = some (.inr (0, [.ref vz, .int (nI 0), .int (nI 0), .int (nI 0)])) ∧ w'[vz]? = some (.inl (1, zs)) ∧ zs.length = 2 * hr (cm a) n - 1)) := by
          intro fuellp38_33
          induction fuellp38_33 with
          | zero => intros; omega
          | succ fuellp38_33 ihlp38_33 =>
            intro kc23 ks24 w25 v_38 k_38 b_38 c4 hS26 hG27 hB28 hv29 hr30 hr31 hv38_0 hv38_1 hf32
            have qF34 := hG27.1
            refine J_iload (pc := 38) dX6_rings_38 rfl ?_
            refine J_if_leN (pc := 40) (tgt := 54) dX6_rings_40 (by decide) (by omega) (fun ht35 => ?_) (fun hf36 => ?_)
            · refine J_iincN (pc := 54) (b := 1) dX6_rings_54 rfl (by decide) (by decide) rfl ?_
              show J X mX6_rings d kc23 ks24 57 [some (.ref 0), some (.int (nI a)), some (.ref a4), some (.int (nI (c3 + 1))), some (.int (nI c4))] [] w25 _
              refine J_goto (pc := 57) (tgt := 14) dX6_rings_57 (by decide) ?_
              exact J_sub (L' := [some (.ref 0), some (.int (nI a)), some (.ref a4), some (.int (nI (c3 + 1))), none]) ⟨rfl, ⟨rfl, ⟨rfl, ⟨rfl, trivial⟩⟩⟩⟩ (ihlp14_14 _ _ w25 v_38 k_38 b_38 (c3 + 1) hS26 hG27 hB28 (by omega) (by omega) (by omega) (by first | assumption | omega) (by first | assumption | omega) (by rw [Nat.add_sub_cancel]; omega) (by omega))
            · refine J_aload_n (pc := 43) dX6_rings_43 rfl rfl rfl ?_
              refine J_iload_n (pc := 44) dX6_rings_44 rfl rfl ?_
              have hgf38 := gw_f k_38 c3 b_38.length
              have hgf39 := dgs_le c3
              have hgf40 := dgs_1 (x := c3) (by omega)
              have hB137 := hB28.2.2.2.1
              have hB237 := hB28.2.2.2.2.1
              have hB337 := hB28.2.2.2.2.2
              refine J_callS (pc := 45) (M := mX6_rings) (as := [.ref a4, .int (nI c3)]) dX6_rings_45 fw_X6_addWord fl_X6_150 fs_X6_addWord rfl (c_X6_addWord_atz hs (d := d - 1) (by omega) hXO (a := a4) (v := v_38) (c := k_38) (bs := b_38) (w := w25) hB28 c3 (by omega) (by omega) (kc := ((gw k_38 c3 b_38.length - b_38.length) / 18)) (ks := (2 * (gw k_38 c3 b_38.length - b_38.length))) (Nat.le_refl _) (Nat.le_refl _)) (by omega) (by omega) (by omega) (st := []) (Nat.le_of_ble_eq_true rfl) rfl (kr_V fun w37 hw37 => ?_) kx_V
              obtain ⟨c37, v37', ys37, hB37, hFc37, hvv37, hc137, hc237, hp37⟩ := hw37
              have hgl37 := hFc37.1
              have hB437 := hB37.2.2.2.1
              have hB537 := hB37.2.2.2.2.2
              have hB637 := hB37.2.2.2.2.1
              have hS37 := rX_fs hS26 hFc37 (by omega) (by omega)
              have hG37 := hG27.sb hFc37 (by omega) (by omega)
              refine J_iincM (pc := 48) dX6_rings_48 rfl (by omega) (by decide) rfl ?_
              show J X mX6_rings d (kc23 - ((gw k_38 c3 b_38.length - b_38.length) / 18)) (ks24 - (2 * (gw k_38 c3 b_38.length - b_38.length))) 51 [some (.ref 0), some (.int (nI a)), some (.ref a4), some (.int (nI c3)), some (.int (nI (c4 - 1)))] [] w37 _
              refine J_goto (pc := 51) (tgt := 38) dX6_rings_51 (by decide) ?_
              exact J_sub (L' := [some (.ref 0), some (.int (nI a)), some (.ref a4), some (.int (nI c3)), some (.int (nI (c4 - 1)))]) ⟨rfl, ⟨rfl, ⟨rfl, ⟨rfl, ⟨rfl, trivial⟩⟩⟩⟩⟩ (ihlp38_33 _ _ w37 v37' c37 ys37 (c4 - 1) hS37 hG37 hB37 (by omega) (by rw [hp37]; exact pt_k (by assumption) hgf38.1) (by rw [hp37]; exact pt_s (by assumption) hgf38.1) (by first | assumption | omega) (by first | assumption | omega) (by omega))
        exact J_sub (L' := [some (.ref 0), some (.int (nI a)), some (.ref a4), some (.int (nI c3)), some (.int (nI k22))]) ⟨rfl, ⟨rfl, ⟨rfl, ⟨rfl, ⟨rfl, trivial⟩⟩⟩⟩⟩ (lp38_33 _ _ _ w6 v_14 k_14 b_14 k22 hS7 hG8 hB9 (by omega) (by omega) (by omega) (by first | assumption | omega) (by first | assumption | omega) (Nat.lt_succ_self _))
  exact J_sub (L' := [some (.ref 0), some (.int (nI a)), some (.ref a4), some (.int (nI 1)), none]) ⟨rfl, ⟨rfl, ⟨rfl, ⟨rfl, trivial⟩⟩⟩⟩ (lp14_14 _ _ _ w3 v3' 0 ys3 1 hS3 hG3 hB3 (by omega) (by omega) (by omega) (by first | assumption | omega) (by first | assumption | omega) (by show 0 = 2 * 0 - 1; rfl) (Nat.lt_succ_self _))
set_option maxRecDepth 100000 in
set_option maxHeartbeats 40000000 in
theorem c_X8_ringsNow_atz {X : jX} (hs : X.1.stackTraces = false) {d : Nat} (hd : 14 ≤ d) (hXO : XO X) {n : Nat} {mv rw nx : Nat → Nat} {b : Nat} {bt : List Int32} {kn en dn rf kk th : Int32} {w : List jC} (hR : RM n mv rw nx b bt kn en dn rf kk th w) (hn1 : 2 ≤ n) (hn2 : n ≤ 7) (gm : ∀ i, mv i < 7) (gr : ∀ i, rw i < 7) (gx : ∀ i, nx i < 7) (a : Nat) (hy0 : a < 6) (hy1 : PM n mv) {kc ks : Nat} (hkc : 40 ≤ kc) (hks : 1500 ≤ ks) : jMet X mX8_ringsNow d kc ks [.ref 19, .int (nI a)] w (pA (fun r w' => RM n mv rw nx b bt kn en dn rf kk th w' ∧ FR b b w w' ∧ ∃ (vz : Nat) (zs : List Int32), w'[r]? = some (.inr (0, [.ref vz, .int (nI 0), .int (nI 0), .int (nI 0)])) ∧ w'[vz]? = some (.inl (1, zs)) ∧ zs.length = 2 * hr (mW n mv a) n - 1)) := by
  refine jMet_of hs (by decide +kernel) (Nat.le_of_ble_eq_true rfl) (L := [some (.ref 19), some (.int (nI a)), none, none, none]) rfl ?_
  have hdm : 13 ≤ d - 1 := by omega
  have hdp : d - 1 + 1 ≤ d := by omega
  have hfc := fc_7 hn2
  have hfp := fc_pos n
  obtain ⟨h19, h20, h21, h22, hbb, hbl, hb3⟩ := hR
  have hsb : ∀ c, c ≤ n → sm (fun j => rl (mW n mv a) (j + 1) n) c ≤ 7 := fun c hc => by
    have h2 := sm_le (fun j => rl (mW n mv a) (j + 1) n) n hc
    rw [rl_sum hn2 (mW_Mv hn2 hy1 hy0)] at h2
    have h3 := hr_le (mW n mv a) n
    omega
  have hF : FR b b w w := FR.rf
  have q191 := gl h19
  have q201 := gl h20
  have q211 := gl h21
  have q221 := gl h22
  have qb1 := gl hbb
  have qF1 := hF.1
  refine J_newO (pc := 0) (M := mX8_ringsNow) (fs := [.null, .int (nI 0), .int (nI 0), .int (nI 0)]) dX8_ringsNow_0 kC1 fc_X8_146 fi_J4 fz_J4 df_J4 (by omega) (by omega) (fun a0 w1 ha1 hln1 hc1 hne1 => ?_)
  have h19_1 := (hne1 19 (by omega)).trans h19
  have h20_1 := (hne1 20 (by omega)).trans h20
  have h21_1 := (hne1 21 (by omega)).trans h21
  have h22_1 := (hne1 22 (by omega)).trans h22
  have hb_1 := (hne1 _ (by omega)).trans hbb
  have hF1 := hF.pu ha1 hln1 hne1
  have qa1 : 23 ≤ a0 := by omega
  have qb1 : a0 ≠ b := by omega
  have qw1 : w.length ≤ a0 := by omega
  refine J_dup (pc := 3) dX8_ringsNow_3 rfl ?_
  refine J_callI (pc := 4) (M := mX8_ringsNow) (as := []) dX8_ringsNow_4 fw_J4_init_da8c8 fl_X8_148 fm_J4_init_da8c8 rfl rfl rfl (c_J4_init_da8c8 hs (d := d - 1) (by omega) (w := w1) a0 hc1 (kc := 1) (ks := 16) (Nat.le_refl _) (Nat.le_refl _)) (by omega) (by omega) (by omega) (st := [.ref a0]) (Nat.le_of_ble_eq_true rfl) rfl (kr_V fun w2 hw2 => ?_) kx_V
  obtain ⟨v2', ys2, hB2, hFc2, hvv2⟩ := hw2
  have hgl2 := hFc2.1
  have hbl2 := hB2.2.2.2.2.1
  have h19_2 := (hFc2.2 19 (by omega) (by omega) (gl h19_1)).trans h19_1
  have h20_2 := (hFc2.2 20 (by omega) (by omega) (gl h20_1)).trans h20_1
  have h21_2 := (hFc2.2 21 (by omega) (by omega) (gl h21_1)).trans h21_1
  have h22_2 := (hFc2.2 22 (by omega) (by omega) (gl h22_1)).trans h22_1
  have hbb_2 := (hFc2.2 b (by omega) (by omega) (gl hb_1)).trans hb_1
  have hF2 := hF1.sb hFc2 (by omega) (by omega)
  refine J_astore_n (pc := 7) dX8_ringsNow_7 rfl (by decide) rfl rfl ?_
  show J X mX8_ringsNow d (kc - 1 - 1) (ks - 4 - 16) 8 [some (.ref 19), some (.int (nI a)), some (.ref a0), none, none] [] w2 _
  refine J_iconst (pc := 8) (v := nI 1) dX8_ringsNow_8 (by decide) ?_
  refine J_istore_n (pc := 9) dX8_ringsNow_9 rfl (by decide) rfl ?_
  show J X mX8_ringsNow d (kc - 1 - 1) (ks - 4 - 16) 10 [some (.ref 19), some (.int (nI a)), some (.ref a0), some (.int (nI 1)), none] [] w2 _
  have lp10_3 : ∀ (fuel : Nat) (kc4 ks5 : Nat) (w6 : List jC) (v_10 k_10 : Nat) (b_10 : List Int32) (c3 : Nat), (RM n mv rw nx b bt kn en dn rf kk th w6) → (FR b b w w6) → (SBp a0 v_10 (nI 0) k_10 b_10 w6) → (w.length ≤ v_10) → ((620 - b_10.length) / 18 ≤ kc4) → (1240 - 2 * b_10.length ≤ ks5) → (1 ≤ c3) → (c3 ≤ n + 1) → (k_10 = 2 * sm (fun j => rl (mW n mv a) (j + 1) n) (c3 - 1) - 1) → (n + 1 - c3 < fuel) → J X mX8_ringsNow d kc4 ks5 10 [some (.ref 19), some (.int (nI a)), some (.ref a0), some (.int (nI c3)), none] [] w6 (pA (fun r w' => RM n mv rw nx b bt kn en dn rf kk th w' ∧ FR b b w w' ∧ ∃ (vz : Nat) (zs : List Int32), w'[r]? = some (.inr (0, [.ref vz, .int (nI 0), .int (nI 0), .int (nI 0)])) ∧ w'[vz]? = some (.inl (1, zs)) ∧ zs.length = 2 * hr (mW n mv a) n - 1)) := by
    intro fuellp10_3
    induction fuellp10_3 with
    | zero => intros; omega
    | succ fuellp10_3 ihlp10_3 =>
      intro kc4 ks5 w6 v_10 k_10 b_10 c3 hR7 hF8 hB9 hv10 hr11 hr12 hv10_0 hv10_1 hv10_2 hf13
      obtain ⟨h19_14, h20_14, h21_14, h22_14, hb_14, hbl_14, hb3_14⟩ := hR7
      have qF15 := hF8.1
      refine J_iload_n (pc := 10) dX8_ringsNow_10 rfl rfl ?_
      refine J_aload_n (pc := 11) dX8_ringsNow_11 rfl rfl rfl ?_
      refine J_get (pc := 12) (k := 0) dX8_ringsNow_12 kC9 (by decide) ff_X8_7 h19_14 rfl ?_
      refine J_icmp_gtN (pc := 15) (tgt := 66) dX8_ringsNow_15 (by decide) (by omega) (by omega) (fun ht16 => ?_) (fun hf17 => ?_)
      · refine J_aload_n (pc := 66) dX8_ringsNow_66 rfl rfl rfl ?_
        have hB118 := hB9.2.2.2.1
        have hw9 := hsb (c3 - 1) (by omega)
        have hB318 := hB9.2.2.2.2.2
        refine J_callV (pc := 67) (M := mX8_ringsNow) (as := []) dX8_ringsNow_67 fw_J4_toString_0e30d fl_X8_158 fm_J4_toString_0e30d fe_J4_toString_0e30d hB9.1 (by decide) rfl rfl rfl (c_J4_toString_0e30d hs (d := d - 1) (by omega) (a := a0) (v := v_10) (c := k_10) (bs := b_10) (w := w6) hB9 (kc := 2) (ks := k_10 + 4) (Nat.le_refl _) (Nat.le_refl _)) (by omega) (by omega) (by omega) (st := []) (Nat.le_of_ble_eq_true rfl) rfl (kr_A fun r18 w18 hw18 => ?_) kx_A
        obtain ⟨hra18, hln18, hne18, vz18, zs18, hco18, hcn18, hyl18⟩ := hw18
        have h19_18 := (hne18 19 (gl h19_14)).trans h19_14
        have h20_18 := (hne18 20 (gl h20_14)).trans h20_14
        have h21_18 := (hne18 21 (gl h21_14)).trans h21_14
        have h22_18 := (hne18 22 (gl h22_14)).trans h22_14
        have hbb_18 := (hne18 b (gl hb_14)).trans hb_14
        have hF18 := hF8.gr hln18 hne18
        exact J_aret (pc := 70) dX8_ringsNow_70 rfl rfl rfl ⟨⟨h19_18, h20_18, h21_18, h22_18, hbb_18, hbl_14, hb3_14⟩, hF18, vz18, zs18, hco18, hcn18, by rw [hyl18, hv10_2, show c3 - 1 = n by omega, rl_sum hn2 (mW_Mv hn2 hy1 hy0)]⟩
      · refine J_aload_n (pc := 18) dX8_ringsNow_18 rfl rfl rfl ?_
        refine J_iload_n (pc := 19) dX8_ringsNow_19 rfl rfl ?_
        refine J_iload_n (pc := 20) dX8_ringsNow_20 rfl rfl ?_
        refine J_callV0 (pc := 21) (M := mX8_ringsNow) (as := [.int (nI a), .int (nI c3)]) dX8_ringsNow_21 fw_X8_longOnes fl_X8_162 fm_X8_longOnes fe_X8_longOnes h19_14 (by decide) rfl rfl rfl (c_X8_longOnes_atx hs (d := d - 1) (Nat.le_trans (by decide) hdm) (w := w6) (n := n) (mv := mv) (rw := rw) (nx := nx) (b := b) (bt := bt) (kn := kn) (en := en) (dn := dn) (rf := rf) (kk := kk) (th := th) ⟨h19_14, h20_14, h21_14, h22_14, hb_14, hbl_14, hb3_14⟩ hn1 hn2 gm gr gx a c3 (by first | assumption | omega) (by first | assumption | omega) (by first | assumption | omega) (by first | assumption | omega) (kc := 0) (ks := 0)) hdp (st := []) (Nat.le_of_ble_eq_true rfl) rfl (kr_P fun v19 hv19 => ?_) kx_I
        obtain ⟨k19, hke, hkv⟩ : ∃ k, k = rl (mW n mv a) c3 n ∧ v19 = nI k := ⟨_, rfl, by rw [hv19, lo_rln hn2 (mW_Mv hn2 hy1 hy0) (fun p hp => (mW_d hn2 hy1 hy0 hp).symm) (by omega)]⟩
        subst hkv
        have hw1 := hsb (c3 - 1) (by omega)
        have hw2 := hsb c3 (by omega)
        have hws : sm (fun j => rl (mW n mv a) (j + 1) n) c3 = sm (fun j => rl (mW n mv a) (j + 1) n) (c3 - 1) + rl (mW n mv a) c3 n := by
          obtain ⟨m3, rfl⟩ : ∃ m, c3 = m + 1 := ⟨c3 - 1, by omega⟩
          rfl
        rw [← hke] at hws
        refine J_istore (pc := 24) dX8_ringsNow_24 (by decide) rfl ?_
        show J X mX8_ringsNow d kc4 ks5 26 [some (.ref 19), some (.int (nI a)), some (.ref a0), some (.int (nI c3)), some (.int (nI k19))] [] w6 _
        have lp26_20 : ∀ (fuel : Nat) (kc21 ks22 : Nat) (w23 : List jC) (v_26 k_26 : Nat) (b_26 : List Int32) (c4 : Nat), (RM n mv rw nx b bt kn en dn rf kk th w23) → (FR b b w w23) → (SBp a0 v_26 (nI 0) k_26 b_26 w23) → (w.length ≤ v_26) → ((620 - b_26.length) / 18 ≤ kc21) → (1240 - 2 * b_26.length ≤ ks22) → (c4 ≤ k19) → (k_26 = 2 * (sm (fun j => rl (mW n mv a) (j + 1) n) (c3 - 1) + (k19 - c4)) - 1) → (c4 < fuel) → J X mX8_ringsNow d kc21 ks22 26 [some (.ref 19), some (.int (nI a)), some (.ref a0), some (.int (nI c3)), some (.int (nI c4))] [] w23 (pA (fun r w' => RM n mv rw nx b bt kn en dn rf kk th w' ∧ FR b b w w' ∧ ∃ (vz : Nat) (zs : List Int32), w'[r]? = some (.inr (0, [.ref vz, .int (nI 0), .int (nI 0), .int (nI 0)])) ∧ w'[vz]? = some (.inl (1, zs)) ∧ zs.length = 2 * hr (mW n mv a) n - 1)) := by
          intro fuellp26_20
          induction fuellp26_20 with
          | zero => intros; omega
          | succ fuellp26_20 ihlp26_20 =>
            intro kc21 ks22 w23 v_26 k_26 b_26 c4 hR24 hF25 hB26 hv27 hr28 hr29 hv26_0 hv26_1 hf30
            obtain ⟨h19_31, h20_31, h21_31, h22_31, hb_31, hbl_31, hb3_31⟩ := hR24
            have qF32 := hF25.1
            refine J_iload (pc := 26) dX8_ringsNow_26 rfl ?_
            refine J_if_leN (pc := 28) (tgt := 60) dX8_ringsNow_28 (by decide) (by omega) (fun ht33 => ?_) (fun hf34 => ?_)
            · refine J_iincN (pc := 60) (b := 1) dX8_ringsNow_60 rfl (by decide) (by decide) rfl ?_
              show J X mX8_ringsNow d kc21 ks22 63 [some (.ref 19), some (.int (nI a)), some (.ref a0), some (.int (nI (c3 + 1))), some (.int (nI c4))] [] w23 _
              refine J_goto (pc := 63) (tgt := 10) dX8_ringsNow_63 (by decide) ?_
              exact J_sub (L' := [some (.ref 19), some (.int (nI a)), some (.ref a0), some (.int (nI (c3 + 1))), none]) ⟨rfl, ⟨rfl, ⟨rfl, ⟨rfl, trivial⟩⟩⟩⟩ (ihlp10_3 _ _ w23 v_26 k_26 b_26 (c3 + 1) ⟨h19_31, h20_31, h21_31, h22_31, hb_31, hbl_31, hb3_31⟩ hF25 hB26 (by omega) (by first | exact pot_k2 (by assumption) (by assumption) (by assumption) | exact pot_k1 (by assumption) (by assumption) | assumption | omega) (by first | exact pot_s2 (by assumption) (by assumption) (by assumption) | exact pot_s1 (by assumption) (by assumption) | assumption | omega) (by first | assumption | omega) (by first | assumption | omega) (by rw [Nat.add_sub_cancel]; omega) (by omega))
            · refine J_aload_n (pc := 31) dX8_ringsNow_31 rfl rfl rfl ?_
              refine J_aload_n (pc := 32) dX8_ringsNow_32 rfl rfl rfl ?_
              refine J_callV0 (pc := 33) (M := mX8_ringsNow) (as := []) dX8_ringsNow_33 fw_J4_length_8abf5 fl_X8_165 fm_J4_length_8abf5 fe_J4_length_8abf5 hB26.1 (by decide) rfl rfl rfl (c_J4_length_8abf5 hs (d := d - 1) (by omega) (a := a0) (v := v_26) (c := k_26) (bs := b_26) (w := w23) hB26 (kc := 0) (ks := 0)) (by omega) (st := [.ref a0]) (Nat.le_of_ble_eq_true rfl) rfl (kr_P fun v35 hv35 => ?_) kx_I
              subst hv35
              have hB135 := hB26.2.2.2.1
              have hB335 := hB26.2.2.2.2.2
              refine J_if_neN (pc := 36) (tgt := 44) dX8_ringsNow_36 (by decide) (by omega) (fun ht36 => ?_) (fun hf37 => ?_)
              · refine J_ldcS (pc := 44) (M := mX8_ringsNow) (a := 6) (tx := " ") dX8_ringsNow_44 (List.mem_cons_of_mem _ List.mem_cons_self) ?_
                obtain ⟨os38, t38, z38, ho138, ho238, ho338, ho438⟩ := hXO.2.2.2
                have hgf40 := gL_d (k_26 + os38.length) b_26.length
                have hB139 := hB26.2.2.2.1
                have hB239 := hB26.2.2.2.2.1
                have hB339 := hB26.2.2.2.2.2
                refine J_callV (pc := 46) (M := mX8_ringsNow) (as := [.retAddr 6]) dX8_ringsNow_46 fw_J4_append_15ec4 fl_X8_151 fm_J4_append_15ec4 fe_J4_append_15ec4 hB26.1 (by decide) rfl rfl rfl (c_J4_append_15ec4 hs (d := d - 1) (by omega) (a := a0) (v := v_26) (c := k_26) (bs := b_26) (w := w23) hB26 6 t38 z38 os38 ho138 ho238 ho438 (by omega) (by omega) (kc := ((gL (k_26 + os38.length) b_26.length - b_26.length) / 18)) (ks := (2 * (gL (k_26 + os38.length) b_26.length - b_26.length))) (Nat.le_refl _) (Nat.le_refl _)) (by omega) (by omega) (by omega) (st := []) (Nat.le_of_ble_eq_true rfl) rfl (kr_A fun r39 w39 hw39 => ?_) kx_A
                obtain ⟨hra39, v39', ys39, hB39, hFc39, hvv39, hp39⟩ := hw39
                obtain rfl := hra39.symm
                have hgl39 := hFc39.1
                have hB439 := hB39.2.2.2.1
                have hB539 := hB39.2.2.2.2.2
                have hB639 := hB39.2.2.2.2.1
                have h19_39 := (hFc39.2 19 (by omega) (by omega) (gl h19_31)).trans h19_31
                have h20_39 := (hFc39.2 20 (by omega) (by omega) (gl h20_31)).trans h20_31
                have h21_39 := (hFc39.2 21 (by omega) (by omega) (gl h21_31)).trans h21_31
                have h22_39 := (hFc39.2 22 (by omega) (by omega) (gl h22_31)).trans h22_31
                have hbb_39 := (hFc39.2 b (by omega) (by omega) (gl hb_31)).trans hb_31
                have hF39 := hF25.sb hFc39 (by omega) (by omega)
                refine J_iload_n (pc := 49) dX8_ringsNow_49 rfl rfl ?_
                have hgf42 := gL_d ((k_26 + os38.length) + dgs c3) ys39.length
                have hgf43 := dgs_le c3
                have hgf44 := dgs_1 (x := c3) (by omega)
                have hB141 := hB39.2.2.2.1
                have hB241 := hB39.2.2.2.2.1
                have hB341 := hB39.2.2.2.2.2
                refine J_callV (pc := 50) (M := mX8_ringsNow) (as := [.int (nI c3)]) dX8_ringsNow_50 fw_J4_append_bf812 fl_X8_155 fm_J4_append_bf812 fe_J4_append_bf812 hB39.1 (by decide) rfl rfl rfl (c_J4_append_bf812 hs (d := d - 1) (by omega) hXO (a := a0) (v := v39') (c := k_26 + os38.length) (bs := ys39) (w := w39) hB39 c3 (by omega) (by omega) (kc := ((gL ((k_26 + os38.length) + dgs c3) ys39.length - ys39.length) / 18)) (ks := (2 * (gL ((k_26 + os38.length) + dgs c3) ys39.length - ys39.length))) (Nat.le_refl _) (Nat.le_refl _)) (by omega) (by omega) (by omega) (st := []) (Nat.le_of_ble_eq_true rfl) rfl (kr_A fun r41 w41 hw41 => ?_) kx_A
                obtain ⟨hra41, v41', ys41, hB41, hFc41, hvv41, hp41⟩ := hw41
                obtain rfl := hra41.symm
                have hgl41 := hFc41.1
                have hB441 := hB41.2.2.2.1
                have hB541 := hB41.2.2.2.2.2
                have hB641 := hB41.2.2.2.2.1
                have h19_41 := (hFc41.2 19 (by omega) (by omega) (gl h19_39)).trans h19_39
                have h20_41 := (hFc41.2 20 (by omega) (by omega) (gl h20_39)).trans h20_39
                have h21_41 := (hFc41.2 21 (by omega) (by omega) (gl h21_39)).trans h21_39
                have h22_41 := (hFc41.2 22 (by omega) (by omega) (gl h22_39)).trans h22_39
                have hbb_41 := (hFc41.2 b (by omega) (by omega) (gl hbb_39)).trans hbb_39
                have hF41 := hF39.sb hFc41 (by omega) (by omega)
                refine J_pop (pc := 53) dX8_ringsNow_53 rfl ?_
                refine J_iincM (pc := 54) dX8_ringsNow_54 rfl (by omega) (by decide) rfl ?_
                show J X mX8_ringsNow d (kc21 - ((gL (k_26 + os38.length) b_26.length - b_26.length) / 18) - ((gL ((k_26 + os38.length) + dgs c3) ys39.length - ys39.length) / 18)) (ks22 - (2 * (gL (k_26 + os38.length) b_26.length - b_26.length)) - (2 * (gL ((k_26 + os38.length) + dgs c3) ys39.length - ys39.length))) 57 [some (.ref 19), some (.int (nI a)), some (.ref a0), some (.int (nI c3)), some (.int (nI (c4 - 1)))] [] w41 _
                refine J_goto (pc := 57) (tgt := 26) dX8_ringsNow_57 (by decide) ?_
                exact J_sub (L' := [some (.ref 19), some (.int (nI a)), some (.ref a0), some (.int (nI c3)), some (.int (nI (c4 - 1)))]) ⟨rfl, ⟨rfl, ⟨rfl, ⟨rfl, ⟨rfl, trivial⟩⟩⟩⟩⟩ (ihlp26_20 _ _ w41 v41' (k_26 + os38.length + dgs c3) ys41 (c4 - 1) ⟨h19_41, h20_41, h21_41, h22_41, hbb_41, hbl_31, hb3_31⟩ hF41 hB41 (by omega) (by first | exact pot_k2 (by assumption) (by assumption) (by assumption) | exact pot_k1 (by assumption) (by assumption) | assumption | omega) (by first | exact pot_s2 (by assumption) (by assumption) (by assumption) | exact pot_s1 (by assumption) (by assumption) | assumption | omega) (by first | assumption | omega) (by first | assumption | omega) (by omega))
              · refine J_ldcS (pc := 39) (M := mX8_ringsNow) (a := 5) (tx := "") dX8_ringsNow_39 List.mem_cons_self ?_
                refine J_goto (pc := 41) (tgt := 46) dX8_ringsNow_41 (by decide) ?_
                obtain ⟨os45, t45, z45, ho145, ho245, ho345, ho445⟩ := hXO.2.2.1
                have hgf47 := gL_d (k_26 + os45.length) b_26.length
                have hB146 := hB26.2.2.2.1
                have hB246 := hB26.2.2.2.2.1
                have hB346 := hB26.2.2.2.2.2
                refine J_callV (pc := 46) (M := mX8_ringsNow) (as := [.retAddr 5]) dX8_ringsNow_46 fw_J4_append_15ec4 fl_X8_151 fm_J4_append_15ec4 fe_J4_append_15ec4 hB26.1 (by decide) rfl rfl rfl (c_J4_append_15ec4 hs (d := d - 1) (by omega) (a := a0) (v := v_26) (c := k_26) (bs := b_26) (w := w23) hB26 5 t45 z45 os45 ho145 ho245 ho445 (by omega) (by omega) (kc := ((gL (k_26 + os45.length) b_26.length - b_26.length) / 18)) (ks := (2 * (gL (k_26 + os45.length) b_26.length - b_26.length))) (Nat.le_refl _) (Nat.le_refl _)) (by omega) (by omega) (by omega) (st := []) (Nat.le_of_ble_eq_true rfl) rfl (kr_A fun r46 w46 hw46 => ?_) kx_A
                obtain ⟨hra46, v46', ys46, hB46, hFc46, hvv46, hp46⟩ := hw46
                obtain rfl := hra46.symm
                have hgl46 := hFc46.1
                have hB446 := hB46.2.2.2.1
                have hB546 := hB46.2.2.2.2.2
                have hB646 := hB46.2.2.2.2.1
                have h19_46 := (hFc46.2 19 (by omega) (by omega) (gl h19_31)).trans h19_31
                have h20_46 := (hFc46.2 20 (by omega) (by omega) (gl h20_31)).trans h20_31
                have h21_46 := (hFc46.2 21 (by omega) (by omega) (gl h21_31)).trans h21_31
                have h22_46 := (hFc46.2 22 (by omega) (by omega) (gl h22_31)).trans h22_31
                have hbb_46 := (hFc46.2 b (by omega) (by omega) (gl hb_31)).trans hb_31
                have hF46 := hF25.sb hFc46 (by omega) (by omega)
                refine J_iload_n (pc := 49) dX8_ringsNow_49 rfl rfl ?_
                have hgf49 := gL_d ((k_26 + os45.length) + dgs c3) ys46.length
                have hgf50 := dgs_le c3
                have hgf51 := dgs_1 (x := c3) (by omega)
                have hB148 := hB46.2.2.2.1
                have hB248 := hB46.2.2.2.2.1
                have hB348 := hB46.2.2.2.2.2
                refine J_callV (pc := 50) (M := mX8_ringsNow) (as := [.int (nI c3)]) dX8_ringsNow_50 fw_J4_append_bf812 fl_X8_155 fm_J4_append_bf812 fe_J4_append_bf812 hB46.1 (by decide) rfl rfl rfl (c_J4_append_bf812 hs (d := d - 1) (by omega) hXO (a := a0) (v := v46') (c := k_26 + os45.length) (bs := ys46) (w := w46) hB46 c3 (by omega) (by omega) (kc := ((gL ((k_26 + os45.length) + dgs c3) ys46.length - ys46.length) / 18)) (ks := (2 * (gL ((k_26 + os45.length) + dgs c3) ys46.length - ys46.length))) (Nat.le_refl _) (Nat.le_refl _)) (by omega) (by omega) (by omega) (st := []) (Nat.le_of_ble_eq_true rfl) rfl (kr_A fun r48 w48 hw48 => ?_) kx_A
                obtain ⟨hra48, v48', ys48, hB48, hFc48, hvv48, hp48⟩ := hw48
                obtain rfl := hra48.symm
                have hgl48 := hFc48.1
                have hB448 := hB48.2.2.2.1
                have hB548 := hB48.2.2.2.2.2
                have hB648 := hB48.2.2.2.2.1
                have h19_48 := (hFc48.2 19 (by omega) (by omega) (gl h19_46)).trans h19_46
                have h20_48 := (hFc48.2 20 (by omega) (by omega) (gl h20_46)).trans h20_46
                have h21_48 := (hFc48.2 21 (by omega) (by omega) (gl h21_46)).trans h21_46
                have h22_48 := (hFc48.2 22 (by omega) (by omega) (gl h22_46)).trans h22_46
                have hbb_48 := (hFc48.2 b (by omega) (by omega) (gl hbb_46)).trans hbb_46
                have hF48 := hF46.sb hFc48 (by omega) (by omega)
                refine J_pop (pc := 53) dX8_ringsNow_53 rfl ?_
                refine J_iincM (pc := 54) dX8_ringsNow_54 rfl (by omega) (by decide) rfl ?_
                show J X mX8_ringsNow d (kc21 - ((gL (k_26 + os45.length) b_26.length - b_26.length) / 18) - ((gL ((k_26 + os45.length) + dgs c3) ys46.length - ys46.length) / 18)) (ks22 - (2 * (gL (k_26 + os45.length) b_26.length - b_26.length)) - (2 * (gL ((k_26 + os45.length) + dgs c3) ys46.length - ys46.length))) 57 [some (.ref 19), some (.int (nI a)), some (.ref a0), some (.int (nI c3)), some (.int (nI (c4 - 1)))] [] w48 _
                refine J_goto (pc := 57) (tgt := 26) dX8_ringsNow_57 (by decide) ?_
                exact J_sub (L' := [some (.ref 19), some (.int (nI a)), some (.ref a0), some (.int (nI c3)), some (.int (nI (c4 - 1)))]) ⟨rfl, ⟨rfl, ⟨rfl, ⟨rfl, ⟨rfl, trivial⟩⟩⟩⟩⟩ (ihlp26_20 _ _ w48 v48' (k_26 + os45.length + dgs c3) ys48 (c4 - 1) ⟨h19_48, h20_48, h21_48, h22_48, hbb_48, hbl_31, hb3_31⟩ hF48 hB48 (by omega) (by first | exact pot_k2 (by assumption) (by assumption) (by assumption) | exact pot_k1 (by assumption) (by assumption) | assumption | omega) (by first | exact pot_s2 (by assumption) (by assumption) (by assumption) | exact pot_s1 (by assumption) (by assumption) | assumption | omega) (by first | assumption | omega) (by first | assumption | omega) (by omega))
        exact J_sub (L' := [some (.ref 19), some (.int (nI a)), some (.ref a0), some (.int (nI c3)), some (.int (nI k19))]) ⟨rfl, ⟨rfl, ⟨rfl, ⟨rfl, ⟨rfl, trivial⟩⟩⟩⟩⟩ (lp26_20 _ _ _ w6 v_10 k_10 b_10 k19 ⟨h19_14, h20_14, h21_14, h22_14, hb_14, hbl_14, hb3_14⟩ hF8 hB9 (by omega) (by omega) (by omega) (by first | assumption | omega) (by first | assumption | omega) (Nat.lt_succ_self _))
  exact J_sub (L' := [some (.ref 19), some (.int (nI a)), some (.ref a0), some (.int (nI 1)), none]) ⟨rfl, ⟨rfl, ⟨rfl, ⟨rfl, trivial⟩⟩⟩⟩ (lp10_3 _ _ _ w2 v2' 0 ys2 1 ⟨h19_2, h20_2, h21_2, h22_2, hbb_2, hbl, hb3⟩ hF2 hB2 (by omega) (by omega) (by omega) (by first | assumption | omega) (by first | assumption | omega) (by show 0 = 2 * 0 - 1; rfl) (Nat.lt_succ_self _))
end
section
/-! the reference's digest, exactly -/
set_option maxRecDepth 100000 in
set_option maxHeartbeats 40000000 in
theorem c_X8_enoughNow_atkx {X : jX} (hs : X.1.stackTraces = false) {d : Nat} (hd : 4 ≤ d) {n : Nat} {mv rw nx : Nat → Nat} {b : Nat} {bt : List Int32} {kn en dn rf kk th : Int32} {w : List jC} (hR : RM n mv rw nx b bt kn en dn rf kk th w) (hn1 : 2 ≤ n) (hn2 : n ≤ 7) (gm : ∀ i, mv i < 7) (gr : ∀ i, rw i < 7) (gx : ∀ i, nx i < 7) (s : Nat) (hy0 : s < 64) (hy1 : PM n mv) (hy2 : kn = nI s ∧ BX n mv s bt en) {kc ks : Nat} : jMet X mX8_enoughNow d kc ks [.ref 19, .int (nI s)] w (pI (fun v => v = nI (enF n (mW n mv) s 6)) (fun w' => w' = w)) := by
  refine jMet_of hs (by decide +kernel) (Nat.le_of_ble_eq_true rfl) (L := [some (.ref 19), some (.int (nI s))]) rfl ?_
  have hdm : 3 ≤ d - 1 := by omega
  have hdp : d - 1 + 1 ≤ d := by omega
  have hfc := fc_7 hn2
  have hfp := fc_pos n
  obtain ⟨h19, h20, h21, h22, hbb, hbl, hb3⟩ := hR
  have hF : FR b b w w := FR.rf
  refine J_aload_n (pc := 0) dX8_enoughNow_0 rfl rfl rfl ?_
  refine J_iload_n (pc := 1) dX8_enoughNow_1 rfl rfl ?_
  refine J_callV0 (pc := 2) (M := mX8_enoughNow) (as := [.int (nI s)]) dX8_enoughNow_2 fw_X8_group fl_X8_99 fm_X8_group fe_X8_group h19 (by decide) rfl rfl rfl (c_X8_group_atk hs (d := d - 1) (Nat.le_trans (by decide) hdm) (w := w) (n := n) (mv := mv) (rw := rw) (nx := nx) (b := b) (bt := bt) (kn := kn) (en := en) (dn := dn) (rf := rf) (kk := kk) (th := th) ⟨h19, h20, h21, h22, hbb, hbl, hb3⟩ hn1 hn2 gm gr gx s (by assumption) (by exact hy2.1) (kc := 0) (ks := 0)) hdp (st := []) (Nat.le_of_ble_eq_true rfl) rfl (kr_V fun w1 hw1 => ?_) kx_V
  obtain rfl := hw1.symm
  have hBXE := hy2.2; have hBX := hBXE.1
  refine J_aload_n (pc := 5) dX8_enoughNow_5 rfl rfl rfl ?_
  refine J_get (pc := 6) (k := 6) dX8_enoughNow_6 kC9 (by decide) ff_X8_85 h19 rfl ?_
  exact J_iret (pc := 9) dX8_enoughNow_9 rfl ⟨hBXE.2, rfl⟩
set_option maxRecDepth 100000 in
set_option maxHeartbeats 40000000 in
theorem c_X8_digest_atx {X : jX} (hs : X.1.stackTraces = false) {d : Nat} (hd : 16 ≤ d) (hXO : XO X) {n : Nat} {mv rw nx : Nat → Nat} {b : Nat} {bt : List Int32} {kn en dn rf kk th : Int32} {w : List jC} (hR : RM n mv rw nx b bt kn en dn rf kk th w) (hn1 : 2 ≤ n) (hn2 : n ≤ 7) (gm : ∀ i, mv i < 7) (gr : ∀ i, rw i < 7) (gx : ∀ i, nx i < 7) (hy0 : PM n mv) (hy1 : KX n mv kn bt en) {kc ks : Nat} (hkc : 330 ≤ kc) (hks : 26000 ≤ ks) : jMet X mX8_digest d kc ks [.ref 19] w (pL (fun v => v = mx (dgH (dgV (dgF (dgW n (fun c => nuF mv (c * 7) n n) (fun c => olc (lF (fun p => mv (c * 7 + p)) n) n) (fun c => sgv (iv mv (c * 7) n)) (fun c => stF (fun p => mv (c * 7 + p)) n) (fun c => 2 * hr (mW n mv c) n - 1) 6) (cd n (Gg n (gS (mW n mv) 63 6))) (ct (fun p => ∀ q, q < p → ¬ Omr n mv 63 p q) n) (cd n (fun x => (Gg n (gS (mW n mv) 63 6)) x ∧ sg n x = nI 1)) (enF n (mW n mv) 63 6)) (fun l => sBv (RP n (Gg n (gS (mW n mv) 63 6)) (fun j => mv (0 * 7 + j)) l) n) n) dn rf kk 3) (nI 1)) (fun w' => ∃ (rw' : Nat → Nat), ∃ (nx' : Nat → Nat), ∃ (b' : Nat), ∃ (bt' : List Int32), ∃ (kn' : Int32), ∃ (en' : Int32), ∃ (th' : Int32), RM n mv rw' nx' b' bt' kn' en' dn rf kk th' w' ∧ FR b b' w w' ∧ (∀ i, rw' i < 7) ∧ (∀ i, nx' i < 7) ∧ KX n mv kn' bt' en')) := by
  refine jMet_of hs (by decide +kernel) (Nat.le_of_ble_eq_true rfl) (L := [some (.ref 19), none, none, none]) rfl ?_
  have hdm : 15 ≤ d - 1 := by omega
  have hdp : d - 1 + 1 ≤ d := by omega
  have hfc := fc_7 hn2
  have hfp := fc_pos n
  obtain ⟨h19, h20, h21, h22, hbb, hbl, hb3⟩ := hR
  have hF : FR b b w w := FR.rf
  refine J_aload_n (pc := 0) dX8_digest_0 rfl rfl rfl ?_
  refine J_iconst (pc := 1) (v := nI 0) dX8_digest_1 (by decide) ?_
  refine J_putW (pc := 2) (k := 10) dX8_digest_2 kC9 (by decide) ff_X8_32 (Or.inl rfl) ⟨rfl, rfl⟩ h19 (by show 10 < 11; decide) (fun w1 hln1 hw1 hne1 => ?_)
  have h19_1 : w1[19]? = some (.inr (9, [.int (nI n), .ref 20, .ref 21, .ref 22, .ref b, .int kn, .int en, .int dn, .int rf, .int kk, .int (nI 0)])) := hw1
  have h20_1 := (hne1 20 (by decide)).trans h20
  have h21_1 := (hne1 21 (by decide)).trans h21
  have h22_1 := (hne1 22 (by decide)).trans h22
  have hb_1 := (hne1 _ (Nat.ne_of_gt (Nat.lt_of_lt_of_le (by decide) hb3))).trans hbb
  have hF1 := hF.st hln1 hne1 (Or.inl (by decide))
  refine J_ldc2 (pc := 5) (v := 248930) dX8_digest_5 fk_X8_237 ?_
  refine J_aload_n (pc := 8) dX8_digest_8 rfl rfl rfl ?_
  refine J_get (pc := 9) (k := 0) dX8_digest_9 kC9 (by decide) ff_X8_7 h19_1 rfl ?_
  refine J_i2l (pc := 12) dX8_digest_12 ?_
  refine J_ladd (pc := 13) dX8_digest_13 ?_
  refine J_lstore_n (pc := 14) dX8_digest_14 rfl (by decide) rfl ?_
  show J X mX8_digest d kc ks 15 [some (.ref 19), some (.long (248930 + (nI n).toInt64)), none, none] [] w1 _
  refine J_iconst (pc := 15) (v := nI 0) dX8_digest_15 (by decide) ?_
  refine J_istore_n (pc := 16) dX8_digest_16 rfl (by decide) rfl ?_
  show J X mX8_digest d kc ks 17 [some (.ref 19), some (.long (248930 + (nI n).toInt64)), none, some (.int (nI 0))] [] w1 _
  have lp17_2 : ∀ (fuel : Nat) (kc3 ks4 : Nat) (w5 : List jC) (y1 : Int64) (c3 : Nat), (RM n mv rw nx b bt kn en dn rf kk (nI 0) w5) → (FR b b w w5) → ((6 - c3) * 40 + 80 ≤ kc3) → ((6 - c3) * 1500 + 16700 ≤ ks4) → (y1 = dgW n (fun c => nuF mv (c * 7) n n) (fun c => olc (lF (fun p => mv (c * 7 + p)) n) n) (fun c => sgv (iv mv (c * 7) n)) (fun c => stF (fun p => mv (c * 7 + p)) n) (fun c => 2 * hr (mW n mv c) n - 1) c3) → (c3 ≤ 6) → (6 - c3 < fuel) → J X mX8_digest d kc3 ks4 17 [some (.ref 19), some (.long y1), none, some (.int (nI c3))] [] w5 (pL (fun v => v = mx (dgH (dgV (dgF (dgW n (fun c => nuF mv (c * 7) n n) (fun c => olc (lF (fun p => mv (c * 7 + p)) n) n) (fun c => sgv (iv mv (c * 7) n)) (fun c => stF (fun p => mv (c * 7 + p)) n) (fun c => 2 * hr (mW n mv c) n - 1) 6) (cd n (Gg n (gS (mW n mv) 63 6))) (ct (fun p => ∀ q, q < p → ¬ Omr n mv 63 p q) n) (cd n (fun x => (Gg n (gS (mW n mv) 63 6)) x ∧ sg n x = nI 1)) (enF n (mW n mv) 63 6)) (fun l => sBv (RP n (Gg n (gS (mW n mv) 63 6)) (fun j => mv (0 * 7 + j)) l) n) n) dn rf kk 3) (nI 1)) (fun w' => ∃ (rw' : Nat → Nat), ∃ (nx' : Nat → Nat), ∃ (b' : Nat), ∃ (bt' : List Int32), ∃ (kn' : Int32), ∃ (en' : Int32), ∃ (th' : Int32), RM n mv rw' nx' b' bt' kn' en' dn rf kk th' w' ∧ FR b b' w w' ∧ (∀ i, rw' i < 7) ∧ (∀ i, nx' i < 7) ∧ KX n mv kn' bt' en')) := by
    intro fuellp17_2
    induction fuellp17_2 with
    | zero => intros; omega
    | succ fuellp17_2 ihlp17_2 =>
      intro kc3 ks4 w5 y1 c3 hR6 hF7 hr8 hr9 hv17_0 hv17_1 hf10
      obtain ⟨h19_11, h20_11, h21_11, h22_11, hb_11, hbl_11, hb3_11⟩ := hR6
      refine J_iload_n (pc := 17) dX8_digest_17 rfl rfl ?_
      refine J_bipush (pc := 18) (v := nI 6) dX8_digest_18 (by decide) ?_
      refine J_icmp_geN (pc := 20) (tgt := 112) dX8_digest_20 (by decide) (by omega) (by omega) (fun ht12 => ?_) (fun hf13 => ?_)
      · refine J_lload_n (pc := 112) dX8_digest_112 rfl rfl ?_
        refine J_ldc2 (pc := 113) (v := 31) dX8_digest_113 fk_X8_239 ?_
        refine J_lmul (pc := 116) dX8_digest_116 ?_
        refine J_aload_n (pc := 117) dX8_digest_117 rfl rfl rfl ?_
        refine J_bipush (pc := 118) (v := nI 63) dX8_digest_118 (by decide) ?_
        refine J_callV (pc := 120) (M := mX8_digest) (as := [.int (nI 63)]) dX8_digest_120 fw_X8_sizeOf fl_X8_178 fm_X8_sizeOf fe_X8_sizeOf h19_11 (by decide) rfl rfl rfl (c_X8_sizeOf_atx hs (d := d - 1) (Nat.le_trans (by decide) hdm) (w := w5) (n := n) (mv := mv) (rw := rw) (nx := nx) (b := b) (bt := bt) (kn := kn) (en := en) (dn := dn) (rf := rf) (kk := kk) (th := nI 0) ⟨h19_11, h20_11, h21_11, h22_11, hb_11, hbl_11, hb3_11⟩ hn1 hn2 gm gr gx 63 (by first | assumption | omega) (by first | assumption | omega) (by exact hy1) (kc := 13) (ks := 2054) (Nat.le_refl _) (Nat.le_refl _)) hdp (by omega) (by omega) (st := [.long (y1 * 31)]) (Nat.le_of_ble_eq_true rfl) rfl (kr_I fun v14 w14 hv14 hw14 => ?_) kx_I
        obtain ⟨rw14, nx14, b14, bt14, kn14, en14, hR14, hFc14, hgrw14, hgnx14, hp14_0, hp14_1⟩ := hw14
        obtain ⟨h19_14, h20_14, h21_14, h22_14, hbb_14, hbl_14, hb3_14⟩ := hR14
        have qd14 := hFc14.2.1
        have hF14 := hF7.tr hFc14
        subst hv14
        have hkn := hp14_0
        have hBXE := hp14_1; have hBX := hBXE.1
        refine J_i2l (pc := 123) dX8_digest_123 ?_
        refine J_ladd (pc := 124) dX8_digest_124 ?_
        refine J_ldc2 (pc := 125) (v := 31) dX8_digest_125 fk_X8_239 ?_
        refine J_lmul (pc := 128) dX8_digest_128 ?_
        refine J_aload_n (pc := 129) dX8_digest_129 rfl rfl rfl ?_
        refine J_bipush (pc := 130) (v := nI 63) dX8_digest_130 (by decide) ?_
        refine J_callV0 (pc := 132) (M := mX8_digest) (as := [.int (nI 63)]) dX8_digest_132 fw_X8_piecesNow fl_X8_191 fm_X8_piecesNow fe_X8_piecesNow h19_14 (by decide) rfl rfl rfl (c_X8_piecesNow_atx hs (d := d - 1) (Nat.le_trans (by decide) hdm) (w := w14) (n := n) (mv := mv) (rw := rw14) (nx := nx14) (b := b14) (bt := bt14) (kn := kn14) (en := en14) (dn := dn) (rf := rf) (kk := kk) (th := nI 0) ⟨h19_14, h20_14, h21_14, h22_14, hbb_14, hbl_14, hb3_14⟩ hn1 hn2 gm hgrw14 hgnx14 63 (by first | assumption | omega) (by first | assumption | omega) (kc := 0) (ks := 0)) hdp (st := [.long (((y1 * 31) + (nI (cd n (Gg n (gS (mW n mv) 63 6)))).toInt64) * 31)]) (Nat.le_of_ble_eq_true rfl) rfl (kr_P fun v15 hv15 => ?_) kx_I
        subst hv15
        refine J_i2l (pc := 135) dX8_digest_135 ?_
        refine J_ladd (pc := 136) dX8_digest_136 ?_
        refine J_ldc2 (pc := 137) (v := 31) dX8_digest_137 fk_X8_239 ?_
        refine J_lmul (pc := 140) dX8_digest_140 ?_
        refine J_aload_n (pc := 141) dX8_digest_141 rfl rfl rfl ?_
        refine J_bipush (pc := 142) (v := nI 63) dX8_digest_142 (by decide) ?_
        refine J_callV0 (pc := 144) (M := mX8_digest) (as := [.int (nI 63)]) dX8_digest_144 fw_X8_evenNow fl_X8_194 fm_X8_evenNow fe_X8_evenNow h19_14 (by decide) rfl rfl rfl (c_X8_evenNow_atkx hs (d := d - 1) (Nat.le_trans (by decide) hdm) (w := w14) (n := n) (mv := mv) (rw := rw14) (nx := nx14) (b := b14) (bt := bt14) (kn := kn14) (en := en14) (dn := dn) (rf := rf) (kk := kk) (th := nI 0) ⟨h19_14, h20_14, h21_14, h22_14, hbb_14, hbl_14, hb3_14⟩ hn1 hn2 gm hgrw14 hgnx14 63 (by first | assumption | omega) (by first | assumption | omega) (by exact ⟨hkn, hBXE⟩) (kc := 0) (ks := 0)) hdp (st := [.long (((((y1 * 31) + (nI (cd n (Gg n (gS (mW n mv) 63 6)))).toInt64) * 31) + (nI (ct (fun p => ∀ q, q < p → ¬ Omr n mv 63 p q) n)).toInt64) * 31)]) (Nat.le_of_ble_eq_true rfl) rfl (kr_I fun v16 w16 hv16 hw16 => ?_) kx_I
        obtain ⟨rw16, hR16, hFc16, hgrw16⟩ := hw16
        obtain ⟨h19_16, h20_16, h21_16, h22_16, hbb_16, hbl_16, hb3_16⟩ := hR16
        have hF16 := hF14.tr hFc16
        subst hv16
        refine J_i2l (pc := 147) dX8_digest_147 ?_
        refine J_ladd (pc := 148) dX8_digest_148 ?_
        refine J_lstore_n (pc := 149) dX8_digest_149 rfl (by decide) rfl ?_
        show J X mX8_digest d (kc3 - 13) (ks4 - 2054) 150 [some (.ref 19), some (.long ((((((y1 * 31) + (nI (cd n (Gg n (gS (mW n mv) 63 6)))).toInt64) * 31) + (nI (ct (fun p => ∀ q, q < p → ¬ Omr n mv 63 p q) n)).toInt64) * 31) + (nI (cd n (fun x => (Gg n (gS (mW n mv) 63 6)) x ∧ sg n x = nI 1))).toInt64)), none, some (.int (nI c3))] [] w16 _
        refine J_lload_n (pc := 150) dX8_digest_150 rfl rfl ?_
        refine J_ldc2 (pc := 151) (v := 31) dX8_digest_151 fk_X8_239 ?_
        refine J_lmul (pc := 154) dX8_digest_154 ?_
        refine J_aload_n (pc := 155) dX8_digest_155 rfl rfl rfl ?_
        refine J_bipush (pc := 156) (v := nI 63) dX8_digest_156 (by decide) ?_
        refine J_callV0 (pc := 158) (M := mX8_digest) (as := [.int (nI 63)]) dX8_digest_158 fw_X8_enoughNow fl_X8_224 fm_X8_enoughNow fe_X8_enoughNow h19_16 (by decide) rfl rfl rfl (c_X8_enoughNow_atkx hs (d := d - 1) (Nat.le_trans (by decide) hdm) (w := w16) (n := n) (mv := mv) (rw := rw16) (nx := nx14) (b := b14) (bt := bt14) (kn := kn14) (en := en14) (dn := dn) (rf := rf) (kk := kk) (th := nI 0) ⟨h19_16, h20_16, h21_16, h22_16, hbb_16, hbl_16, hb3_16⟩ hn1 hn2 gm hgrw16 hgnx14 63 (by first | assumption | omega) (by first | assumption | omega) (by exact ⟨hkn, hBXE⟩) (kc := 0) (ks := 0)) hdp (st := [.long (((((((y1 * 31) + (nI (cd n (Gg n (gS (mW n mv) 63 6)))).toInt64) * 31) + (nI (ct (fun p => ∀ q, q < p → ¬ Omr n mv 63 p q) n)).toInt64) * 31) + (nI (cd n (fun x => (Gg n (gS (mW n mv) 63 6)) x ∧ sg n x = nI 1))).toInt64) * 31)]) (Nat.le_of_ble_eq_true rfl) rfl (kr_P fun v17 hv17 => ?_) kx_I
        subst hv17
        refine J_i2l (pc := 161) dX8_digest_161 ?_
        refine J_ladd (pc := 162) dX8_digest_162 ?_
        refine J_lstore_n (pc := 163) dX8_digest_163 rfl (by decide) rfl ?_
        show J X mX8_digest d (kc3 - 13) (ks4 - 2054) 164 [some (.ref 19), some (.long ((((((((y1 * 31) + (nI (cd n (Gg n (gS (mW n mv) 63 6)))).toInt64) * 31) + (nI (ct (fun p => ∀ q, q < p → ¬ Omr n mv 63 p q) n)).toInt64) * 31) + (nI (cd n (fun x => (Gg n (gS (mW n mv) 63 6)) x ∧ sg n x = nI 1))).toInt64) * 31) + (nI (enF n (mW n mv) 63 6)).toInt64)), none, some (.int (nI c3))] [] w16 _
        refine J_iconst (pc := 164) (v := nI 0) dX8_digest_164 (by decide) ?_
        refine J_istore_n (pc := 165) dX8_digest_165 rfl (by decide) rfl ?_
        show J X mX8_digest d (kc3 - 13) (ks4 - 2054) 166 [some (.ref 19), some (.long ((((((((y1 * 31) + (nI (cd n (Gg n (gS (mW n mv) 63 6)))).toInt64) * 31) + (nI (ct (fun p => ∀ q, q < p → ¬ Omr n mv 63 p q) n)).toInt64) * 31) + (nI (cd n (fun x => (Gg n (gS (mW n mv) 63 6)) x ∧ sg n x = nI 1))).toInt64) * 31) + (nI (enF n (mW n mv) 63 6)).toInt64)), none, some (.int (nI 0))] [] w16 _
        have lp166_18 : ∀ (fuel : Nat) (w19 : List jC) (rw_166 : Nat → Nat) (y1 : Int64) (c3 : Nat), (RM n mv rw_166 nx14 b14 bt14 kn14 en14 dn rf kk (nI 0) w19) → (FR b b14 w w19) → (∀ i, rw_166 i < 7) → (y1 = dgV (dgF (dgW n (fun c => nuF mv (c * 7) n n) (fun c => olc (lF (fun p => mv (c * 7 + p)) n) n) (fun c => sgv (iv mv (c * 7) n)) (fun c => stF (fun p => mv (c * 7 + p)) n) (fun c => 2 * hr (mW n mv c) n - 1) 6) (cd n (Gg n (gS (mW n mv) 63 6))) (ct (fun p => ∀ q, q < p → ¬ Omr n mv 63 p q) n) (cd n (fun x => (Gg n (gS (mW n mv) 63 6)) x ∧ sg n x = nI 1)) (enF n (mW n mv) 63 6)) (fun l => sBv (RP n (Gg n (gS (mW n mv) 63 6)) (fun j => mv (0 * 7 + j)) l) n) c3) → (c3 ≤ n) → (n - c3 < fuel) → J X mX8_digest d (kc3 - 13) (ks4 - 2054) 166 [some (.ref 19), some (.long y1), none, some (.int (nI c3))] [] w19 (pL (fun v => v = mx (dgH (dgV (dgF (dgW n (fun c => nuF mv (c * 7) n n) (fun c => olc (lF (fun p => mv (c * 7 + p)) n) n) (fun c => sgv (iv mv (c * 7) n)) (fun c => stF (fun p => mv (c * 7 + p)) n) (fun c => 2 * hr (mW n mv c) n - 1) 6) (cd n (Gg n (gS (mW n mv) 63 6))) (ct (fun p => ∀ q, q < p → ¬ Omr n mv 63 p q) n) (cd n (fun x => (Gg n (gS (mW n mv) 63 6)) x ∧ sg n x = nI 1)) (enF n (mW n mv) 63 6)) (fun l => sBv (RP n (Gg n (gS (mW n mv) 63 6)) (fun j => mv (0 * 7 + j)) l) n) n) dn rf kk 3) (nI 1)) (fun w' => ∃ (rw' : Nat → Nat), ∃ (nx' : Nat → Nat), ∃ (b' : Nat), ∃ (bt' : List Int32), ∃ (kn' : Int32), ∃ (en' : Int32), ∃ (th' : Int32), RM n mv rw' nx' b' bt' kn' en' dn rf kk th' w' ∧ FR b b' w w' ∧ (∀ i, rw' i < 7) ∧ (∀ i, nx' i < 7) ∧ KX n mv kn' bt' en')) := by
          intro fuellp166_18
          induction fuellp166_18 with
          | zero => intros; omega
          | succ fuellp166_18 ihlp166_18 =>
            intro w19 rw_166 y1 c3 hR20 hF21 gr22 hv166_0 hv166_1 hf23
            obtain ⟨h19_24, h20_24, h21_24, h22_24, hb_24, hbl_24, hb3_24⟩ := hR20
            refine J_iload_n (pc := 166) dX8_digest_166 rfl rfl ?_
            refine J_aload_n (pc := 167) dX8_digest_167 rfl rfl rfl ?_
            refine J_get (pc := 168) (k := 0) dX8_digest_168 kC9 (by decide) ff_X8_7 h19_24 rfl ?_
            refine J_icmp_geN (pc := 171) (tgt := 196) dX8_digest_171 (by decide) (by omega) (by omega) (fun ht25 => ?_) (fun hf26 => ?_)
            · refine J_iconst (pc := 196) (v := nI 0) dX8_digest_196 (by decide) ?_
              refine J_istore_n (pc := 197) dX8_digest_197 rfl (by decide) rfl ?_
              show J X mX8_digest d (kc3 - 13) (ks4 - 2054) 198 [some (.ref 19), some (.long y1), none, some (.int (nI 0))] [] w19 _
              have lp198_27 : ∀ (fuel : Nat) (y1 : Int64) (c3 : Nat), (y1 = dgH (dgV (dgF (dgW n (fun c => nuF mv (c * 7) n n) (fun c => olc (lF (fun p => mv (c * 7 + p)) n) n) (fun c => sgv (iv mv (c * 7) n)) (fun c => stF (fun p => mv (c * 7 + p)) n) (fun c => 2 * hr (mW n mv c) n - 1) 6) (cd n (Gg n (gS (mW n mv) 63 6))) (ct (fun p => ∀ q, q < p → ¬ Omr n mv 63 p q) n) (cd n (fun x => (Gg n (gS (mW n mv) 63 6)) x ∧ sg n x = nI 1)) (enF n (mW n mv) 63 6)) (fun l => sBv (RP n (Gg n (gS (mW n mv) 63 6)) (fun j => mv (0 * 7 + j)) l) n) n) dn rf kk c3) → (c3 ≤ 3) → (3 - c3 < fuel) → J X mX8_digest d (kc3 - 13) (ks4 - 2054) 198 [some (.ref 19), some (.long y1), none, some (.int (nI c3))] [] w19 (pL (fun v => v = mx (dgH (dgV (dgF (dgW n (fun c => nuF mv (c * 7) n n) (fun c => olc (lF (fun p => mv (c * 7 + p)) n) n) (fun c => sgv (iv mv (c * 7) n)) (fun c => stF (fun p => mv (c * 7 + p)) n) (fun c => 2 * hr (mW n mv c) n - 1) 6) (cd n (Gg n (gS (mW n mv) 63 6))) (ct (fun p => ∀ q, q < p → ¬ Omr n mv 63 p q) n) (cd n (fun x => (Gg n (gS (mW n mv) 63 6)) x ∧ sg n x = nI 1)) (enF n (mW n mv) 63 6)) (fun l => sBv (RP n (Gg n (gS (mW n mv) 63 6)) (fun j => mv (0 * 7 + j)) l) n) n) dn rf kk 3) (nI 1)) (fun w' => ∃ (rw' : Nat → Nat), ∃ (nx' : Nat → Nat), ∃ (b' : Nat), ∃ (bt' : List Int32), ∃ (kn' : Int32), ∃ (en' : Int32), ∃ (th' : Int32), RM n mv rw' nx' b' bt' kn' en' dn rf kk th' w' ∧ FR b b' w w' ∧ (∀ i, rw' i < 7) ∧ (∀ i, nx' i < 7) ∧ KX n mv kn' bt' en')) := by
                intro fuellp198_27
                induction fuellp198_27 with
                | zero => intros; omega
                | succ fuellp198_27 ihlp198_27 =>
                  intro y1 c3 hv198_0 hv198_1 hf28
                  refine J_iload_n (pc := 198) dX8_digest_198 rfl rfl ?_
                  refine J_iconst (pc := 199) (v := nI 3) dX8_digest_199 (by decide) ?_
                  refine J_icmp_geN (pc := 200) (tgt := 222) dX8_digest_200 (by decide) (by omega) (by omega) (fun ht29 => ?_) (fun hf30 => ?_)
                  · refine J_lload_n (pc := 222) dX8_digest_222 rfl rfl ?_
                    refine J_ldc2 (pc := 223) (v := 31) dX8_digest_223 fk_X8_239 ?_
                    refine J_lmul (pc := 226) dX8_digest_226 ?_
                    refine J_aload_n (pc := 227) dX8_digest_227 rfl rfl rfl ?_
                    refine J_callV (pc := 228) (M := mX8_digest) (as := []) dX8_digest_228 fw_X8_isSoundNow fl_X8_233 fm_X8_isSoundNow fe_X8_isSoundNow h19_24 (by decide) rfl rfl rfl (c_X8_isSoundNow_atx hs (d := d - 1) (Nat.le_trans (by decide) hdm) (w := w19) (n := n) (mv := mv) (rw := rw_166) (nx := nx14) (b := b14) (bt := bt14) (kn := kn14) (en := en14) (dn := dn) (rf := rf) (kk := kk) (th := nI 0) ⟨h19_24, h20_24, h21_24, h22_24, hb_24, hbl_24, hb3_24⟩ hn1 hn2 gm gr22 hgnx14 (by first | assumption | omega) (by exact KX_i hBXE (by decide) hkn) (kc := 15) (ks := 6428) (Nat.le_refl _) (Nat.le_refl _)) hdp (by omega) (by omega) (st := [.long (y1 * 31)]) (Nat.le_of_ble_eq_true rfl) rfl (kr_I fun v31 w31 hv31 hw31 => ?_) kx_I
                    obtain ⟨rw31, nx31, b31, bt31, kn31, en31, hR31, hFc31, hgrw31, hgnx31, hp31_0⟩ := hw31
                    obtain ⟨h19_31, h20_31, h21_31, h22_31, hbb_31, hbl_31, hb3_31⟩ := hR31
                    have qd31 := hFc31.2.1
                    have hF31 := hF21.tr hFc31
                    subst hv31
                    refine J_if_eqN (pc := 231) (tgt := 238) dX8_digest_231 (by decide) (by decide) (fun h => absurd h (by decide)) (fun _ => ?_)
                    refine J_iconst (pc := 234) (v := nI 1) dX8_digest_234 (by decide) ?_
                    refine J_goto (pc := 235) (tgt := 239) dX8_digest_235 (by decide) ?_
                    refine J_i2l (pc := 239) dX8_digest_239 ?_
                    refine J_ladd (pc := 240) dX8_digest_240 ?_
                    exact J_lret (pc := 241) dX8_digest_241 rfl ⟨(by rw [hv198_0, show c3 = 3 by omega]; rfl), ⟨rw31, nx31, b31, bt31, kn31, en31, nI 0, ⟨h19_31, h20_31, h21_31, h22_31, hbb_31, hbl_31, hb3_31⟩, hF31, hgrw31, hgnx31, (by first | assumption | exact KX_i (by assumption) (by decide) (by assumption))⟩⟩
                  · refine J_lload_n (pc := 203) dX8_digest_203 rfl rfl ?_
                    refine J_ldc2 (pc := 204) (v := 31) dX8_digest_204 fk_X8_239 ?_
                    refine J_lmul (pc := 207) dX8_digest_207 ?_
                    refine J_aload_n (pc := 208) dX8_digest_208 rfl rfl rfl ?_
                    refine J_iload_n (pc := 209) dX8_digest_209 rfl rfl ?_
                    refine J_callV0 (pc := 210) (M := mX8_digest) (as := [.int (nI c3)]) dX8_digest_210 fw_X8_houseNow fl_X8_230 fm_X8_houseNow fe_X8_houseNow h19_24 (by decide) rfl rfl rfl (c_X8_houseNow_atq hs (d := d - 1) (Nat.le_trans (by decide) hdm) (w := w19) (n := n) (mv := mv) (rw := rw_166) (nx := nx14) (b := b14) (bt := bt14) (kn := kn14) (en := en14) (dn := dn) (rf := rf) (kk := kk) (th := nI 0) ⟨h19_24, h20_24, h21_24, h22_24, hb_24, hbl_24, hb3_24⟩ hn1 hn2 gm gr22 hgnx14 (nI c3) (kc := 0) (ks := 0)) hdp (st := [.long (y1 * 31)]) (Nat.le_of_ble_eq_true rfl) rfl (kr_P fun v32 hv32 => ?_) kx_I
                    have hhn := hv32
                    refine J_i2l (pc := 213) dX8_digest_213 ?_
                    refine J_ladd (pc := 214) dX8_digest_214 ?_
                    refine J_lstore_n (pc := 215) dX8_digest_215 rfl (by decide) rfl ?_
                    show J X mX8_digest d (kc3 - 13) (ks4 - 2054) 216 [some (.ref 19), some (.long ((y1 * 31) + (v32).toInt64)), none, some (.int (nI c3))] [] w19 _
                    refine J_iincN (pc := 216) (b := 1) dX8_digest_216 rfl (by decide) (by decide) rfl ?_
                    show J X mX8_digest d (kc3 - 13) (ks4 - 2054) 219 [some (.ref 19), some (.long ((y1 * 31) + (v32).toInt64)), none, some (.int (nI (c3 + 1)))] [] w19 _
                    refine J_goto (pc := 219) (tgt := 198) dX8_digest_219 (by decide) ?_
                    exact J_sub (L' := [some (.ref 19), some (.long ((y1 * 31) + (v32).toInt64)), none, some (.int (nI (c3 + 1)))]) ⟨rfl, ⟨rfl, ⟨rfl, trivial⟩⟩⟩ (ihlp198_27 ((y1 * 31) + (v32).toInt64) (c3 + 1) (by rw [hv198_0, hhn]; rfl) (by first | assumption | omega) (by omega))
              exact J_sub (L' := [some (.ref 19), some (.long y1), none, some (.int (nI 0))]) ⟨rfl, ⟨rfl, ⟨rfl, trivial⟩⟩⟩ (lp198_27 _ y1 0 (by rw [hv166_0, show c3 = n by omega]; rfl) (by first | assumption | omega) (Nat.lt_succ_self _))
            · refine J_lload_n (pc := 174) dX8_digest_174 rfl rfl ?_
              refine J_ldc2 (pc := 175) (v := 31) dX8_digest_175 fk_X8_239 ?_
              refine J_lmul (pc := 178) dX8_digest_178 ?_
              refine J_aload_n (pc := 179) dX8_digest_179 rfl rfl rfl ?_
              refine J_bipush (pc := 180) (v := nI 63) dX8_digest_180 (by decide) ?_
              refine J_iconst (pc := 182) (v := nI 0) dX8_digest_182 (by decide) ?_
              refine J_iload_n (pc := 183) dX8_digest_183 rfl rfl ?_
              refine J_callV0 (pc := 184) (M := mX8_digest) (as := [.int (nI 63), .int (nI 0), .int (nI c3)]) dX8_digest_184 fw_X8_reachNow fl_X8_181 fm_X8_reachNow fe_X8_reachNow h19_24 (by decide) rfl rfl rfl (c_X8_reachNow_atkx hs (d := d - 1) (Nat.le_trans (by decide) hdm) (w := w19) (n := n) (mv := mv) (rw := rw_166) (nx := nx14) (b := b14) (bt := bt14) (kn := kn14) (en := en14) (dn := dn) (rf := rf) (kk := kk) (th := nI 0) ⟨h19_24, h20_24, h21_24, h22_24, hb_24, hbl_24, hb3_24⟩ hn1 hn2 gm gr22 hgnx14 63 0 c3 (by first | assumption | omega) (by first | assumption | omega) (by exact ⟨hkn, hBXE⟩) (by first | assumption | omega) (by first | assumption | omega) (kc := 0) (ks := 0)) hdp (st := [.long (y1 * 31)]) (Nat.le_of_ble_eq_true rfl) rfl (kr_I fun v33 w33 hv33 hw33 => ?_) kx_I
              obtain ⟨rw33, hR33, hFc33, hgrw33⟩ := hw33
              obtain ⟨h19_33, h20_33, h21_33, h22_33, hbb_33, hbl_33, hb3_33⟩ := hR33
              have hF33 := hF21.tr hFc33
              subst hv33
              refine J_i2l (pc := 187) dX8_digest_187 ?_
              refine J_ladd (pc := 188) dX8_digest_188 ?_
              refine J_lstore_n (pc := 189) dX8_digest_189 rfl (by decide) rfl ?_
              show J X mX8_digest d (kc3 - 13) (ks4 - 2054) 190 [some (.ref 19), some (.long ((y1 * 31) + (nI (sBv (RP n (Gg n (gS (mW n mv) 63 6)) (fun j => mv (0 * 7 + j)) c3) n)).toInt64)), none, some (.int (nI c3))] [] w33 _
              refine J_iincN (pc := 190) (b := 1) dX8_digest_190 rfl (by decide) (by decide) rfl ?_
              show J X mX8_digest d (kc3 - 13) (ks4 - 2054) 193 [some (.ref 19), some (.long ((y1 * 31) + (nI (sBv (RP n (Gg n (gS (mW n mv) 63 6)) (fun j => mv (0 * 7 + j)) c3) n)).toInt64)), none, some (.int (nI (c3 + 1)))] [] w33 _
              refine J_goto (pc := 193) (tgt := 166) dX8_digest_193 (by decide) ?_
              exact J_sub (L' := [some (.ref 19), some (.long ((y1 * 31) + (nI (sBv (RP n (Gg n (gS (mW n mv) 63 6)) (fun j => mv (0 * 7 + j)) c3) n)).toInt64)), none, some (.int (nI (c3 + 1)))]) ⟨rfl, ⟨rfl, ⟨rfl, trivial⟩⟩⟩ (ihlp166_18 w33 rw33 ((y1 * 31) + (nI (sBv (RP n (Gg n (gS (mW n mv) 63 6)) (fun j => mv (0 * 7 + j)) c3) n)).toInt64) (c3 + 1) ⟨h19_33, h20_33, h21_33, h22_33, hbb_33, hbl_33, hb3_33⟩ hF33 hgrw33 (by rw [hv166_0]; rfl) (by first | assumption | omega) (by omega))
        exact J_sub (L' := [some (.ref 19), some (.long ((((((((y1 * 31) + (nI (cd n (Gg n (gS (mW n mv) 63 6)))).toInt64) * 31) + (nI (ct (fun p => ∀ q, q < p → ¬ Omr n mv 63 p q) n)).toInt64) * 31) + (nI (cd n (fun x => (Gg n (gS (mW n mv) 63 6)) x ∧ sg n x = nI 1))).toInt64) * 31) + (nI (enF n (mW n mv) 63 6)).toInt64)), none, some (.int (nI 0))]) ⟨rfl, ⟨rfl, ⟨rfl, trivial⟩⟩⟩ (lp166_18 _ w16 rw16 ((((((((y1 * 31) + (nI (cd n (Gg n (gS (mW n mv) 63 6)))).toInt64) * 31) + (nI (ct (fun p => ∀ q, q < p → ¬ Omr n mv 63 p q) n)).toInt64) * 31) + (nI (cd n (fun x => (Gg n (gS (mW n mv) 63 6)) x ∧ sg n x = nI 1))).toInt64) * 31) + (nI (enF n (mW n mv) 63 6)).toInt64) 0 ⟨h19_16, h20_16, h21_16, h22_16, hbb_16, hbl_16, hb3_16⟩ hF16 hgrw16 (by rw [hv17_0, show c3 = 6 by omega]; rfl) (by first | assumption | omega) (Nat.lt_succ_self _))
      · refine J_lload_n (pc := 23) dX8_digest_23 rfl rfl ?_
        refine J_ldc2 (pc := 24) (v := 31) dX8_digest_24 fk_X8_239 ?_
        refine J_lmul (pc := 27) dX8_digest_27 ?_
        refine J_aload_n (pc := 28) dX8_digest_28 rfl rfl rfl ?_
        refine J_aload_n (pc := 29) dX8_digest_29 rfl rfl rfl ?_
        refine J_get (pc := 30) (k := 1) dX8_digest_30 kC9 (by decide) ff_X8_13 h19_11 rfl ?_
        refine J_iload_n (pc := 33) dX8_digest_33 rfl rfl ?_
        refine J_bipush (pc := 34) (v := nI 7) dX8_digest_34 (by decide) ?_
        refine J_imulN (pc := 36) dX8_digest_36 ?_
        refine J_callV0 (pc := 37) (M := mX8_digest) (as := [.ref 20, .int (nI (c3 * 7))]) dX8_digest_37 fw_X8_numberOf fl_X8_45 fm_X8_numberOf fe_X8_numberOf h19_11 (by decide) rfl rfl rfl (c_X8_numberOf_at20 hs (d := d - 1) (Nat.le_trans (by decide) hdm) (w := w5) (n := n) (mv := mv) (rw := rw) (nx := nx) (b := b) (bt := bt) (kn := kn) (en := en) (dn := dn) (rf := rf) (kk := kk) (th := nI 0) ⟨h19_11, h20_11, h21_11, h22_11, hb_11, hbl_11, hb3_11⟩ hn1 hn2 gm gr gx (c3 * 7) (by first | assumption | omega) (kc := 0) (ks := 0)) hdp (st := [.long (y1 * 31)]) (Nat.le_of_ble_eq_true rfl) rfl (kr_P fun v34 hv34 => ?_) kx_I
        subst hv34
        have hq35 := nuF_b mv (c3 * 7) n
        refine J_i2l (pc := 40) dX8_digest_40 ?_
        refine J_ladd (pc := 41) dX8_digest_41 ?_
        refine J_ldc2 (pc := 42) (v := 31) dX8_digest_42 fk_X8_239 ?_
        refine J_lmul (pc := 45) dX8_digest_45 ?_
        refine J_aload_n (pc := 46) dX8_digest_46 rfl rfl rfl ?_
        refine J_aload_n (pc := 47) dX8_digest_47 rfl rfl rfl ?_
        refine J_get (pc := 48) (k := 1) dX8_digest_48 kC9 (by decide) ff_X8_13 h19_11 rfl ?_
        refine J_iload_n (pc := 51) dX8_digest_51 rfl rfl ?_
        refine J_bipush (pc := 52) (v := nI 7) dX8_digest_52 (by decide) ?_
        refine J_imulN (pc := 54) dX8_digest_54 ?_
        refine J_callV0 (pc := 55) (M := mX8_digest) (as := [.ref 20, .int (nI (c3 * 7))]) dX8_digest_55 fw_X8_orderOf fl_X8_172 fm_X8_orderOf fe_X8_orderOf h19_11 (by decide) rfl rfl rfl (c_X8_orderOf_at20x hs (d := d - 1) (Nat.le_trans (by decide) hdm) (w := w5) (n := n) (mv := mv) (rw := rw) (nx := nx) (b := b) (bt := bt) (kn := kn) (en := en) (dn := dn) (rf := rf) (kk := kk) (th := nI 0) ⟨h19_11, h20_11, h21_11, h22_11, hb_11, hbl_11, hb3_11⟩ hn1 hn2 gm gr gx (c3 * 7) (by first | assumption | omega) (by exact hy0 c3 (by omega)) (kc := 0) (ks := 0)) hdp (st := [.long (((y1 * 31) + (nI (nuF mv (c3 * 7) n n)).toInt64) * 31)]) (Nat.le_of_ble_eq_true rfl) rfl (kr_P fun v36 hv36 => ?_) kx_I
        obtain ⟨k36, rfl, hk36⟩ := hv36
        have hor := hk36.1
        refine J_i2l (pc := 58) dX8_digest_58 ?_
        refine J_ladd (pc := 59) dX8_digest_59 ?_
        refine J_lstore_n (pc := 60) dX8_digest_60 rfl (by decide) rfl ?_
        show J X mX8_digest d kc3 ks4 61 [some (.ref 19), some (.long ((((y1 * 31) + (nI (nuF mv (c3 * 7) n n)).toInt64) * 31) + (nI k36).toInt64)), none, some (.int (nI c3))] [] w5 _
        refine J_lload_n (pc := 61) dX8_digest_61 rfl rfl ?_
        refine J_ldc2 (pc := 62) (v := 31) dX8_digest_62 fk_X8_239 ?_
        refine J_lmul (pc := 65) dX8_digest_65 ?_
        refine J_aload_n (pc := 66) dX8_digest_66 rfl rfl rfl ?_
        refine J_aload_n (pc := 67) dX8_digest_67 rfl rfl rfl ?_
        refine J_get (pc := 68) (k := 1) dX8_digest_68 kC9 (by decide) ff_X8_13 h19_11 rfl ?_
        refine J_iload_n (pc := 71) dX8_digest_71 rfl rfl ?_
        refine J_bipush (pc := 72) (v := nI 7) dX8_digest_72 (by decide) ?_
        refine J_imulN (pc := 74) dX8_digest_74 ?_
        refine J_callV0 (pc := 75) (M := mX8_digest) (as := [.ref 20, .int (nI (c3 * 7))]) dX8_digest_75 fw_X8_signOf fl_X8_115 fm_X8_signOf fe_X8_signOf h19_11 (by decide) rfl rfl rfl (c_X8_signOf_at20x hs (d := d - 1) (Nat.le_trans (by decide) hdm) (w := w5) (n := n) (mv := mv) (rw := rw) (nx := nx) (b := b) (bt := bt) (kn := kn) (en := en) (dn := dn) (rf := rf) (kk := kk) (th := nI 0) ⟨h19_11, h20_11, h21_11, h22_11, hb_11, hbl_11, hb3_11⟩ hn1 hn2 gm gr gx (c3 * 7) (by first | assumption | omega) (kc := 0) (ks := 0)) hdp (st := [.long (((((y1 * 31) + (nI (nuF mv (c3 * 7) n n)).toInt64) * 31) + (nI k36).toInt64) * 31)]) (Nat.le_of_ble_eq_true rfl) rfl (kr_P fun v37 hv37 => ?_) kx_I
        have hsg := hv37
        refine J_i2l (pc := 78) dX8_digest_78 ?_
        refine J_ladd (pc := 79) dX8_digest_79 ?_
        refine J_ldc2 (pc := 80) (v := 31) dX8_digest_80 fk_X8_239 ?_
        refine J_lmul (pc := 83) dX8_digest_83 ?_
        refine J_aload_n (pc := 84) dX8_digest_84 rfl rfl rfl ?_
        refine J_iload_n (pc := 85) dX8_digest_85 rfl rfl ?_
        refine J_callV0 (pc := 86) (M := mX8_digest) (as := [.int (nI c3)]) dX8_digest_86 fw_X8_staysNow fl_X8_175 fm_X8_staysNow fe_X8_staysNow h19_11 (by decide) rfl rfl rfl (c_X8_staysNow_atx hs (d := d - 1) (Nat.le_trans (by decide) hdm) (w := w5) (n := n) (mv := mv) (rw := rw) (nx := nx) (b := b) (bt := bt) (kn := kn) (en := en) (dn := dn) (rf := rf) (kk := kk) (th := nI 0) ⟨h19_11, h20_11, h21_11, h22_11, hb_11, hbl_11, hb3_11⟩ hn1 hn2 gm gr gx c3 (by first | assumption | omega) (kc := 0) (ks := 0)) hdp (st := [.long (((((((y1 * 31) + (nI (nuF mv (c3 * 7) n n)).toInt64) * 31) + (nI k36).toInt64) * 31) + (v37).toInt64) * 31)]) (Nat.le_of_ble_eq_true rfl) rfl (kr_P fun v38 hv38 => ?_) kx_I
        subst hv38
        refine J_i2l (pc := 89) dX8_digest_89 ?_
        refine J_ladd (pc := 90) dX8_digest_90 ?_
        refine J_ldc2 (pc := 91) (v := 31) dX8_digest_91 fk_X8_239 ?_
        refine J_lmul (pc := 94) dX8_digest_94 ?_
        refine J_aload_n (pc := 95) dX8_digest_95 rfl rfl rfl ?_
        refine J_iload_n (pc := 96) dX8_digest_96 rfl rfl ?_
        refine J_callV (pc := 97) (M := mX8_digest) (as := [.int (nI c3)]) dX8_digest_97 fw_X8_ringsNow fl_X8_168 fm_X8_ringsNow fe_X8_ringsNow h19_11 (by decide) rfl rfl rfl (c_X8_ringsNow_atz hs (d := d - 1) (by omega) hXO (w := w5) (n := n) (mv := mv) (rw := rw) (nx := nx) (b := b) (bt := bt) (kn := kn) (en := en) (dn := dn) (rf := rf) (kk := kk) (th := nI 0) ⟨h19_11, h20_11, h21_11, h22_11, hb_11, hbl_11, hb3_11⟩ hn1 hn2 gm gr gx c3 (by omega) (by assumption) (kc := 40) (ks := 1500) (Nat.le_refl _) (Nat.le_refl _)) (by omega) (by omega) (by omega) (st := [.long (((((((((y1 * 31) + (nI (nuF mv (c3 * 7) n n)).toInt64) * 31) + (nI k36).toInt64) * 31) + (v37).toInt64) * 31) + (nI (stF (fun p => mv (c3 * 7 + p)) n)).toInt64) * 31)]) (Nat.le_of_ble_eq_true rfl) rfl (kr_A fun r39 w39 hw39 => ?_) kx_A
        obtain ⟨hR39, hFc39, vz39, zs39, hco39, hcn39, hyl39⟩ := hw39
        obtain ⟨h19_39, h20_39, h21_39, h22_39, hbb_39, hbl_39, hb3_39⟩ := hR39
        have hF39 := hF7.tr hFc39
        have hrbr39 := hr_le (mW n mv c3) n
        refine J_callV0 (pc := 100) (M := mX8_digest) (as := []) dX8_digest_100 fw_J0_length_8abf5 fl_X8_241 fm_J0_length_8abf5 fe_J0_length_8abf5 hco39 (by decide) rfl rfl rfl (c_J0_length_8abf5_ats hs (d := d - 1) (by omega) (w := w39) r39 vz39 zs39 hco39 hcn39 (by omega) (kc := 0) (ks := 0)) (by omega) (st := [.long (((((((((y1 * 31) + (nI (nuF mv (c3 * 7) n n)).toInt64) * 31) + (nI k36).toInt64) * 31) + (v37).toInt64) * 31) + (nI (stF (fun p => mv (c3 * 7 + p)) n)).toInt64) * 31)]) (Nat.le_of_ble_eq_true rfl) rfl (kr_P fun v40 hv40 => ?_) kx_I
        rw [hyl39] at hv40
        subst hv40
        refine J_i2l (pc := 103) dX8_digest_103 ?_
        refine J_ladd (pc := 104) dX8_digest_104 ?_
        refine J_lstore_n (pc := 105) dX8_digest_105 rfl (by decide) rfl ?_
        show J X mX8_digest d (kc3 - 40) (ks4 - 1500) 106 [some (.ref 19), some (.long ((((((((((y1 * 31) + (nI (nuF mv (c3 * 7) n n)).toInt64) * 31) + (nI k36).toInt64) * 31) + (v37).toInt64) * 31) + (nI (stF (fun p => mv (c3 * 7 + p)) n)).toInt64) * 31) + (nI (2 * hr (mW n mv c3) n - 1)).toInt64)), none, some (.int (nI c3))] [] w39 _
        refine J_iincN (pc := 106) (b := 1) dX8_digest_106 rfl (by decide) (by decide) rfl ?_
        show J X mX8_digest d (kc3 - 40) (ks4 - 1500) 109 [some (.ref 19), some (.long ((((((((((y1 * 31) + (nI (nuF mv (c3 * 7) n n)).toInt64) * 31) + (nI k36).toInt64) * 31) + (v37).toInt64) * 31) + (nI (stF (fun p => mv (c3 * 7 + p)) n)).toInt64) * 31) + (nI (2 * hr (mW n mv c3) n - 1)).toInt64)), none, some (.int (nI (c3 + 1)))] [] w39 _
        refine J_goto (pc := 109) (tgt := 17) dX8_digest_109 (by decide) ?_
        exact J_sub (L' := [some (.ref 19), some (.long ((((((((((y1 * 31) + (nI (nuF mv (c3 * 7) n n)).toInt64) * 31) + (nI k36).toInt64) * 31) + (v37).toInt64) * 31) + (nI (stF (fun p => mv (c3 * 7 + p)) n)).toInt64) * 31) + (nI (2 * hr (mW n mv c3) n - 1)).toInt64)), none, some (.int (nI (c3 + 1)))]) ⟨rfl, ⟨rfl, ⟨rfl, trivial⟩⟩⟩ (ihlp17_2 _ _ w39 ((((((((((y1 * 31) + (nI (nuF mv (c3 * 7) n n)).toInt64) * 31) + (nI k36).toInt64) * 31) + (v37).toInt64) * 31) + (nI (stF (fun p => mv (c3 * 7 + p)) n)).toInt64) * 31) + (nI (2 * hr (mW n mv c3) n - 1)).toInt64) (c3 + 1) ⟨h19_39, h20_39, h21_39, h22_39, hbb_39, hbl_39, hb3_39⟩ hF39 (by omega) (by omega) (by rw [hv17_0, hor, hsg]; rfl) (by first | assumption | omega) (by omega))
  exact J_sub (L' := [some (.ref 19), some (.long (248930 + (nI n).toInt64)), none, some (.int (nI 0))]) ⟨rfl, ⟨rfl, ⟨rfl, trivial⟩⟩⟩ (lp17_2 _ _ _ w1 (248930 + (nI n).toInt64) 0 ⟨h19_1, h20_1, h21_1, h22_1, hb_1, hbl, hb3⟩ hF1 (by omega) (by omega) (by rfl) (by first | assumption | omega) (Nat.lt_succ_self _))
end
section
/-! what is so between two calls, exactly; acts as relations -/
/-- the number of points, done, refused, knocks, the moves -/
abbrev StX : Type := Nat × Int32 × Int32 × Int32 × (Nat → Nat)
def LCx (S : StX) (w : List jC) : Prop := 2 ≤ S.1 ∧ S.1 ≤ 7 ∧ (∀ c, c < 6 → Mv S.1 (S.2.2.2.2 c)) ∧ HX S.1 S.2.1 S.2.2.1 S.2.2.2.1 S.2.2.2.2 w ∧ SH (rX S.1 S.2.1 S.2.2.1 S.2.2.2.1) w
def LRx (o : Nat) (S : StX) (t : Int32) (w : List jC) : Prop := ∃ (mv rw nx : Nat → Nat) (b : Nat) (bt : List Int32) (kn en : Int32), RM S.1 mv rw nx b bt kn en S.2.1 S.2.2.1 S.2.2.2.1 t w ∧ 2 ≤ S.1 ∧ S.1 ≤ 7 ∧ (∀ i, mv i < 7) ∧ (∀ i, rw i < 7) ∧ (∀ i, nx i < 7) ∧ PM S.1 mv ∧ KX S.1 mv kn bt en ∧ RLx S.1 S.2.2.2.2 mv ∧ b ≠ o
def LO (o : Nat) (w : List jC) : Prop := 24 ≤ o ∧ ∃ fs : List Value, w[o]? = some (.inr (8, fs)) ∧ fs.length = 2
def LIx (o : Nat) (S S' : StX) (t : Int32) (w : List jC) : Prop := LCx S w ∧ LRx o S' t w ∧ LO o w
def LI (o : Nat) (S S' : StX) (w : List jC) : Prop := ∃ t, LIx o S S' t w
/-- what lies behind the house is kept -/
def F19 (w w' : List jC) : Prop := w.length ≤ w'.length ∧ ∀ i, 19 ≤ i → i < w.length → w'[i]? = w[i]?
theorem F19.of {w w' : List jC} (h : Fr kX w w') : F19 w w' := ⟨h.1, fun i hi hl => h.2 i (Or.inr hi) hl⟩
theorem F19.H {w w' : List jC} (h : FH w w') : F19 w w' := ⟨h.1, fun i hi hl => h.2 i (by omega) hl⟩
theorem F19.N {w w' : List jC} (h : FN w w') : F19 w w' := ⟨h.1, fun i hi hl => h.2 i (by omega) hl⟩
theorem F19.psh {w : List jC} {cs : List jC} : F19 w (w ++ cs) := ⟨by rw [List.length_append]; omega, fun _ _ hl => List.getElem?_append_left hl⟩
theorem LRx.fr {o : Nat} {S : StX} {t : Int32} {w w' : List jC} (h : LRx o S t w) (hF : F19 w w') : LRx o S t w' := by
  obtain ⟨mv, rw, nx, b, bt, kn, en, ⟨h1, h2, h3, h4, h5, h6, h7⟩, r⟩ := h
  exact ⟨mv, rw, nx, b, bt, kn, en, ⟨(hF.2 19 (by decide) (gl h1)).trans h1, (hF.2 20 (by decide) (gl h2)).trans h2, (hF.2 21 (by decide) (gl h3)).trans h3, (hF.2 22 (by decide) (gl h4)).trans h4, (hF.2 b (by omega) (gl h5)).trans h5, h6, h7⟩, r⟩
theorem LO.fr {o : Nat} {w w' : List jC} (h : LO o w) (hF : F19 w w') : LO o w' := by
  obtain ⟨h0, fs, h1, h2⟩ := h
  exact ⟨h0, fs, (hF.2 o (by omega) (gl h1)).trans h1, h2⟩
theorem LIx.c0 {o : Nat} {S S' : StX} {t : Int32} {w : List jC} (h : LIx o S S' t w) : ∃ fs : List Value, w[0]? = some (.inr (7, fs)) := ⟨_, h.1.2.2.2.1.1⟩
theorem LIx.c19 {o : Nat} {S S' : StX} {t : Int32} {w : List jC} (h : LIx o S S' t w) : ∃ fs : List Value, w[19]? = some (.inr (9, fs)) := by
  obtain ⟨_, ⟨mv, rw, nx, b, bt, kn, en, hR, _⟩, _⟩ := h
  exact ⟨_, hR.1⟩
theorem LI.c0 {o : Nat} {S S' : StX} {w : List jC} (h : LI o S S' w) : ∃ fs : List Value, w[0]? = some (.inr (7, fs)) := by
  obtain ⟨t, h⟩ := h
  exact h.c0
theorem LI.c19 {o : Nat} {S S' : StX} {w : List jC} (h : LI o S S' w) : ∃ fs : List Value, w[19]? = some (.inr (9, fs)) := by
  obtain ⟨t, h⟩ := h
  exact h.c19
/-! the class's side -/
theorem LCx.q {S : StX} {w w' : List jC} (h : LCx S w) (hS : SH (rX S.1 S.2.1 S.2.2.1 S.2.2.2.1) w') (hF : Fr kX w w') : LCx S w' := by
  obtain ⟨a1, a2, a3, ⟨a4, a5⟩, a6⟩ := h
  obtain ⟨_, hc, rfl⟩ := hS 0 _ rfl
  exact ⟨a1, a2, a3, ⟨hc, (hF.2 1 (Or.inl rfl) (gl a5)).trans a5⟩, hS⟩
theorem LI.q {o : Nat} {S S' : StX} {w w' : List jC} (h : LI o S S' w) (hS : SH (rX S.1 S.2.1 S.2.2.1 S.2.2.2.1) w') (hF : Fr kX w w') : LI o S S' w' := by
  obtain ⟨t, h1, h2, h3⟩ := h
  exact ⟨t, h1.q hS hF, h2.fr (F19.of hF), h3.fr (F19.of hF)⟩
theorem LCx.psh {S : StX} {w : List jC} {cs : List jC} (h : LCx S w) : LCx S (w ++ cs) := by
  obtain ⟨a1, a2, a3, ⟨a4, a5⟩, a6⟩ := h
  exact ⟨a1, a2, a3, ⟨(List.getElem?_append_left (gl a4)).trans a4, (List.getElem?_append_left (gl a5)).trans a5⟩, a6.push⟩
theorem LI.psh {o : Nat} {S S' : StX} {w w' : List jC} (h : LI o S S' w) (hw : w' = w ++ [.inr (99, [])]) : LI o S S' w' := by
  subst hw
  obtain ⟨t, h1, h2, h3⟩ := h
  exact ⟨t, h1.psh, h2.fr F19.psh, h3.fr F19.psh⟩
theorem LI.eq {o : Nat} {S S' : StX} {w w' : List jC} (h : LI o S S' w) (hw : w' = w) : LI o S S' w' := by
  obtain rfl := hw.symm
  exact h
/-- the moves' cell -/
theorem tA_aF {k : Nat} {f : Nat → Nat} : tA k (aF k f) := ⟨_, rfl, by rw [List.length_map, List.length_range]⟩
theorem LCx.act {S S2 : StX} {w w' : List jC} (h : LCx S w) (hH : HX S2.1 S2.2.1 S2.2.2.1 S2.2.2.2.1 S2.2.2.2.2 w') (hF : FH w w') (h1 : 2 ≤ S2.1) (h2 : S2.1 ≤ 7) (hM : ∀ c, c < 6 → Mv S2.1 (S2.2.2.2.2 c)) : LCx S2 w' := by
  obtain ⟨_, _, _, _, a6⟩ := h
  refine ⟨h1, h2, hM, hH, fun i p hp => ?_⟩
  match i, hp with
  | 0, hp =>
    cases hp
    exact ⟨_, hH.1, rfl⟩
  | 1, hp =>
    cases hp
    exact ⟨_, hH.2, tA_aF⟩
  | i + 2, hp =>
    obtain ⟨c, hc, h2⟩ := a6 (i + 2) p hp
    exact ⟨c, (hF.2 (i + 2) (by omega) (gl hc)).trans hc, h2⟩
theorem LI.act {o : Nat} {S S2 S' : StX} {w w' : List jC} (h : LI o S S' w) (hH : HX S2.1 S2.2.1 S2.2.2.1 S2.2.2.2.1 S2.2.2.2.2 w') (hF : FH w w') (h1 : 2 ≤ S2.1) (h2 : S2.1 ≤ 7) (hM : ∀ c, c < 6 → Mv S2.1 (S2.2.2.2.2 c)) : LI o S2 S' w' := by
  obtain ⟨t, a1, a2, a3⟩ := h
  exact ⟨t, a1.act hH hF h1 h2 hM, a2.fr (F19.H hF), a3.fr (F19.H hF)⟩
theorem LI.nth {o : Nat} {S S2 S' : StX} {w w' : List jC} {st sv rc sz kw : Nat → Nat} {ns tk ro nn : Nat} (h : LI o S S' w) (hH : HX S2.1 S2.2.1 S2.2.2.1 S2.2.2.2.1 S2.2.2.2.2 w') (hF : FN w w') (hC : CM st sv rc sz kw ns tk ro nn w') (hns : ns ≤ 21) (hnn : nn ≤ 7) (h1 : 2 ≤ S2.1) (h2 : S2.1 ≤ 7) (hM : ∀ c, c < 6 → Mv S2.1 (S2.2.2.2.2 c)) : LI o S2 S' w' := by
  obtain ⟨t, ⟨_, _, _, _, a6⟩, a2, a3⟩ := h
  refine ⟨t, ⟨h1, h2, hM, hH, fun i p hp => ?_⟩, a2.fr (F19.N hF), a3.fr (F19.N hF)⟩
  obtain ⟨c2, c3, c4, c5, c6, c7⟩ := hC
  match i, hp with
  | 0, hp =>
    cases hp
    exact ⟨_, hH.1, rfl⟩
  | 1, hp =>
    cases hp
    exact ⟨_, hH.2, tA_aF⟩
  | 2, hp =>
    cases hp
    exact ⟨_, c2, ns, nn, nI tk, nI ro, rfl, hns, hnn⟩
  | 3, hp =>
    cases hp
    exact ⟨_, c3, tA_aF⟩
  | 4, hp =>
    cases hp
    exact ⟨_, c4, tA_aF⟩
  | 5, hp =>
    cases hp
    exact ⟨_, c5, tA_aF⟩
  | 6, hp =>
    cases hp
    exact ⟨_, c6, tA_aF⟩
  | 7, hp =>
    cases hp
    exact ⟨_, c7, tA_aF⟩
  | i + 8, hp =>
    obtain ⟨c, hc, h2⟩ := a6 (i + 8) p hp
    exact ⟨c, (hF.2 (i + 8) (by omega) (gl hc)).trans hc, h2⟩
/-- a plain list of ints as a function -/
theorem aF_of {k : Nat} {xs : List Int32} (h : xs.length = k) : (.inl (0, xs) : jC) = aF k (fun i => (xs.getD i 0).toBitVec.toNat) := by
  unfold aF
  congr 2
  refine List.ext_getElem (by rw [List.length_map, List.length_range]; exact h) (fun i h1 h2 => ?_)
  rw [List.getElem_map, List.getElem_range, ← nI_self, List.getD_eq_getElem?_getD, List.getElem?_eq_getElem h1]
  rfl
/-- the chain's cells as functions -/
theorem CM_of {S : StX} {w : List jC} (h : LCx S w) : ∃ (st sv rc sz kw : Nat → Nat) (ns tk ro nn : Nat), CM st sv rc sz kw ns tk ro nn w := by
  obtain ⟨_, _, _, _, a6⟩ := h
  obtain ⟨_, c2, a, f, b, g, rfl, _, _⟩ := a6 2 _ rfl
  obtain ⟨_, c3, x3, rfl, l3⟩ := a6 3 _ rfl
  obtain ⟨_, c4, x4, rfl, l4⟩ := a6 4 _ rfl
  obtain ⟨_, c5, x5, rfl, l5⟩ := a6 5 _ rfl
  obtain ⟨_, c6, x6, rfl, l6⟩ := a6 6 _ rfl
  obtain ⟨_, c7, x7, rfl, l7⟩ := a6 7 _ rfl
  rw [aF_of l3] at c3
  rw [aF_of l4] at c4
  rw [aF_of l5] at c5
  rw [aF_of l6] at c6
  rw [aF_of l7] at c7
  rw [nI_self b, nI_self g] at c2
  exact ⟨_, _, _, _, _, _, _, _, _, c2, c3, c4, c5, c6, c7⟩
/-! the reference's side -/
theorem LIx.ref {o : Nat} {S S2 : StX} {t : Int32} {w w' : List jC} {b b' : Nat} {mv rw nx : Nat → Nat} {bt : List Int32} {kn en : Int32} (hC : LCx S w) (hO : LO o w) (h24 : b ≠ o) (hb : 23 ≤ b) (hF : FR b b' w w') (hR : RM S2.1 mv rw nx b' bt kn en S2.2.1 S2.2.2.1 S2.2.2.2.1 t w') (h1 : 2 ≤ S2.1) (h2 : S2.1 ≤ 7)
    (gm : ∀ i, mv i < 7) (gr : ∀ i, rw i < 7) (gx : ∀ i, nx i < 7) (hP : PM S2.1 mv) (hK : KX S2.1 mv kn bt en) (hL : RLx S2.1 S2.2.2.2.2 mv) : LIx o S S2 t w' ∧ w'[o]? = w[o]? := by
  obtain ⟨a1, a2, a3, ⟨a4, a5⟩, a6⟩ := hC
  obtain ⟨o0, fs, o1, o2⟩ := hO
  have hl := gl o1
  have hk : ∀ i, i < 19 → w'[i]? = w[i]? := fun i hi => hF.2.2 i (Or.inl hi) (by omega) (by omega)
  have ho := hF.at o1 (by omega) (fun e => h24 e.symm)
  refine ⟨⟨⟨a1, a2, a3, ⟨(hk 0 (by decide)).trans a4, (hk 1 (by decide)).trans a5⟩, a6.keep (fun i hi => hk i hi)⟩, ⟨mv, rw, nx, b', bt, kn, en, hR, h1, h2, gm, gr, gx, hP, hK, hL, ?_⟩, ⟨o0, fs, ho, o2⟩⟩, ho.trans o1.symm⟩
  rcases hF.2.1 with e | e
  · rw [e]; exact h24
  · omega
theorem LI.out {o : Nat} {S S' : StX} {w w' : List jC} {k : Nat} {v : Value} {fs : List Value} (h : LI o S S' w) (hfs : fs.length = 2) (hw : w'[o]? = some (.inr (8, fs.set k v))) (hne : ∀ c, c ≠ o → w'[c]? = w[c]?) : LI o S S' w' := by
  obtain ⟨t, ⟨a1, a2, a3, ⟨a4, a5⟩, a6⟩, ⟨mv, rw, nx, b, bt, kn, en, ⟨b1, b2, b3, b4, b5, b6, b7⟩, c1, c2, c3, c4, c5, c6, c7, c8, c9⟩, ⟨o0, _⟩⟩ := h
  refine ⟨t, ⟨a1, a2, a3, ⟨(hne 0 (by omega)).trans a4, (hne 1 (by omega)).trans a5⟩, a6.keep (fun i hi => ?_)⟩, ⟨mv, rw, nx, b, bt, kn, en, ⟨(hne 19 (by omega)).trans b1, (hne 20 (by omega)).trans b2, (hne 21 (by omega)).trans b3, (hne 22 (by omega)).trans b4, (hne b c9).trans b5, b6, b7⟩, c1, c2, c3, c4, c5, c6, c7, c8, c9⟩, ⟨o0, _, hw, by rw [List.length_set]; exact hfs⟩⟩
  have h19 : i < 19 := hi
  exact hne i (by omega)
/-! acts -/
def AG (G1 G2 : Prop) (D : Int32 → StX → Prop) (S : StX) (k : Nat) (v : Int32) (S' : StX) : Prop := (k = 1 ∧ ¬ G1 ∧ S' = S) ∨ (k = 2 ∧ G1 ∧ ¬ G2 ∧ S' = S) ∨ (k = 0 ∧ G1 ∧ G2 ∧ D v S')
section ACTS
variable {G1 G2 : Prop} {D : Int32 → StX → Prop} {S : StX} {k k' : Nat} {v v' : Int32} {a b : StX}
theorem AG.same (hD : ∀ v v' a b, D v a → D v' b → a = b) (h : AG G1 G2 D S k v a) (h' : AG G1 G2 D S k' v' b) : a = b ∧ k = k' := by
  rcases h with ⟨e, g, s⟩ | ⟨e, g, g2, s⟩ | ⟨e, g, g2, s⟩ <;> rcases h' with ⟨e', g', s'⟩ | ⟨e', g', g2', s'⟩ | ⟨e', g', g2', s'⟩
  · exact ⟨s.trans s'.symm, e.trans e'.symm⟩
  · exact absurd g' g
  · exact absurd g' g
  · exact absurd g g'
  · exact ⟨s.trans s'.symm, e.trans e'.symm⟩
  · exact absurd g2' g2
  · exact absurd g g'
  · exact absurd g2 g2'
  · exact ⟨hD _ _ _ _ s s', e.trans e'.symm⟩
theorem AG.val (hV : ∀ v v' a b, D v a → D v' b → v = v') (h : AG G1 G2 D S k v a) (h' : AG G1 G2 D S k v' b) (h0 : k = 0) : v = v' := by
  rcases h with ⟨e, _⟩ | ⟨e, _⟩ | ⟨_, _, _, s⟩
  · omega
  · omega
  · rcases h' with ⟨e, _⟩ | ⟨e, _⟩ | ⟨_, _, _, s'⟩
    · omega
    · omega
    · exact hV _ _ _ _ s s'
theorem AG.k3 (h : AG G1 G2 D S k v a) : k < 3 := by
  rcases h with ⟨e, _⟩ | ⟨e, _⟩ | ⟨e, _⟩ <;> omega
end ACTS
def ES (S : StX) (a x : Nat) : StX := (S.1, S.2.1 + nI 1, S.2.2.1, S.2.2.2.1, up S.2.2.2.2 a x)
def NS (S : StX) : StX := (S.1, S.2.1, S.2.2.1 + nI 1, S.2.2.2.1, S.2.2.2.2)
def KS (S : StX) : StX := (S.1, S.2.1, S.2.2.1, S.2.2.2.1 + nI 1, S.2.2.2.2)
theorem nI_uq {x : Int32} {a b k : Nat} (ha : x = nI a) (hb : x = nI b) (h1 : a < k) (h2 : b < k) (hk : k ≤ 2 ^ 31 := by omega) : a = b := (nI_eq (by omega) (by omega)).mp (ha.symm.trans hb)
theorem ES_M {S : StX} {a x : Nat} (hM : ∀ c, c < 6 → Mv S.1 (S.2.2.2.2 c)) (hx : Mv S.1 x) : ∀ c, c < 6 → Mv (ES S a x).1 ((ES S a x).2.2.2.2 c) := fun c hc => by
  show Mv S.1 (up S.2.2.2.2 a x c)
  by_cases e : c = a
  · rw [e, up_s]; exact hx
  · rw [up_n e]; exact hM c hc
end
section
/-! the house's questions over all its cells -/
/-- all cells behind the house's two -/
def UB (ns nn mn wn tn pc qn qm : Nat) : Prop := ns ≤ 21 ∧ nn ≤ 7 ∧ mn ≤ 5040 ∧ wn ≤ 7 ∧ tn ≤ 7 ∧ (1 ≤ pc ∧ pc ≤ 3) ∧ qn ≤ 7 ∧ qm ≤ 2187
def AU (w : List jC) : Prop := ∃ (st : Nat → Nat), ∃ (sv : Nat → Nat), ∃ (rc : Nat → Nat), ∃ (sz : Nat → Nat), ∃ (kw : Nat → Nat), ∃ (ns : Nat), ∃ (tk : Nat), ∃ (ro : Nat), ∃ (nn : Nat), ∃ (ml : List Int32), ∃ (tg : Nat → Nat), ∃ (mn : Nat), ∃ (wn : Nat), ∃ (po : Nat → Nat), ∃ (tn : Nat), ∃ (ql : List Int32), ∃ (qt : Nat → Nat), ∃ (pw : Nat → Nat), ∃ (qm : Nat), ∃ (pc : Nat), ∃ (qn : Nat), CM st sv rc sz kw ns tk ro nn w ∧ WM ml tg mn wn w ∧ TM po tn w ∧ QM ql qt pw qm pc qn w ∧ UB ns nn mn wn tn pc qn qm
theorem F19.rf {w : List jC} : F19 w w := ⟨Nat.le_refl _, fun _ _ _ => rfl⟩
theorem F19.tr {w w' w'' : List jC} (h : F19 w w') (h' : F19 w' w'') : F19 w w'' := ⟨Nat.le_trans h.1 h'.1, fun i hi hl => (h'.2 i hi (Nat.lt_of_lt_of_le hl h.1)).trans (h.2 i hi hl)⟩
theorem F19.trC {w w' w'' : List jC} (h : F19 w w') (h' : FC w' w'') : F19 w w'' := ⟨by rw [h'.1]; exact h.1, fun i hi hl => (h'.2 i (by omega)).trans (h.2 i hi hl)⟩
theorem F19.trB {a b : Nat} {w w' w'' : List jC} (h : F19 w w') (h' : FB a b w' w'') (hb : b ≤ 18) : F19 w w'' := ⟨by rw [h'.1]; exact h.1, fun i hi hl => (h'.2 i (by omega)).trans (h.2 i hi hl)⟩
theorem F19.trH {w w' w'' : List jC} (h : F19 w w') (h' : FH w' w'') : F19 w w'' := ⟨Nat.le_trans h.1 h'.1, fun i hi hl => (h'.2 i (by omega) (Nat.lt_of_lt_of_le hl h.1)).trans (h.2 i hi hl)⟩
theorem ocL_le (x : Nat) : ∀ f r c, ocL x f r c ≤ c + f
  | 0, _, _ => Nat.le_refl _
  | f + 1, r, c => by
    show (if r = 1754760 then c else ocL x f (c7 r x) (c + 1)) ≤ c + (f + 1)
    have := ocL_le x f (c7 r x) (c + 1)
    split <;> omega
theorem oC_le (x : Nat) : oC x ≤ 12 := ocL_le x 11 x 1
theorem FI_od {n s o : Nat} {cm : Nat → Nat} {ml : List Int32} (h1 : 1 ≤ n) (hn : n ≤ 7) (hB : WX n cm s ml) {tg : Nat → Nat} {mn : Nat} (hF : FI n ml tg mn) (ho : o ≤ 12) : sm (fun i => if oC (tg i) = o then 1 else 0) mn = cd n (fun x => Gg n (gS cm s 6) x ∧ nI (oC x) = nI o) := by
  rw [FI_sm hB hF (P := fun x => oC x = o)]
  refine cd_iff h1 hn (fun x hx => and_congr_right (fun _ => ⟨fun e => congrArg nI e, fun e => ?_⟩))
  have h2 := oC_le x
  exact (nI_eq (by omega) (by omega)).mp e
theorem FI_ev {n s : Nat} {cm : Nat → Nat} {ml : List Int32} (h1 : 1 ≤ n) (hn : n ≤ 7) (hB : WX n cm s ml) {tg : Nat → Nat} {mn : Nat} (hF : FI n ml tg mn) : sm (fun i => if sgC (tg i) n = nI 1 then 1 else 0) mn = cd n (fun x => Gg n (gS cm s 6) x ∧ sg n x = nI 1) := by
  rw [FI_sm hB hF (P := fun x => sgC x n = nI 1)]
  refine cd_iff h1 hn (fun x hx => and_congr_right (fun _ => ?_))
  rw [sign_is hn hx]
end
