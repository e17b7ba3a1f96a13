/-! texts of the class -/
set_option maxRecDepth 100000 in
set_option maxHeartbeats 40000000 in
theorem c_X6_howManyBelow_atn {X : jX} (hs : X.1.stackTraces = false) {d : Nat} (hd : 1 ≤ d) {w : List jC} (m : Nat) (b : Int32) (hy0 : m < 128) {kc ks : Nat} : jMet X mX6_howManyBelow d kc ks [.int (nI m), .int b] w (pI (fun v => ∃ k : Nat, v = nI k ∧ k ≤ 7) (fun w' => w' = w)) := by
  refine jMet_of hs (by decide +kernel) (Nat.le_of_ble_eq_true rfl) (L := [some (.int (nI m)), some (.int b)]) rfl ?_
  refine J_iload_n (pc := 0) dX6_howManyBelow_0 rfl rfl ?_
  refine J_iconst (pc := 1) (v := nI 1) dX6_howManyBelow_1 (by decide) ?_
  refine J_iload_n (pc := 2) dX6_howManyBelow_2 rfl rfl ?_
  refine J_ishl (pc := 3) dX6_howManyBelow_3 (J_absI fun x1 => ?_)
  refine J_iconst (pc := 4) (v := nI 1) dX6_howManyBelow_4 (by decide) ?_
  refine J_isub (pc := 5) dX6_howManyBelow_5 (J_absI fun x2 => ?_)
  refine J_andLe (pc := 6) dX6_howManyBelow_6 (by omega) (fun k3 hk3 => ?_)
  refine J_callS0 (pc := 7) (M := mX6_howManyBelow) (as := [.int (nI k3)]) dX6_howManyBelow_7 fw_J6_bitCount_0f7a4 fl_X6_220 fs_J6_bitCount_0f7a4 rfl (c_J6_bitCount_0f7a4_at7 hs (d := d - 1) (by omega) (w := w) k3 (by omega) (kc := 0) (ks := 0)) (by omega) (st := []) (Nat.le_of_ble_eq_true rfl) rfl (kr_P fun v4 hv4 => ?_) kx_I
  obtain ⟨k4, rfl, hk4⟩ := hv4
  exact J_iret (pc := 10) dX6_howManyBelow_10 rfl ⟨⟨k4, rfl, by omega⟩, rfl⟩
set_option maxRecDepth 100000 in
set_option maxHeartbeats 40000000 in
theorem c_X2_numberOf_atn {X : jX} (hs : X.1.stackTraces = false) {d : Nat} (hd : 2 ≤ d) {w : List jC} (a : Int32) (k : Nat) (hy0 : k ≤ 7) {kc ks : Nat} : jMet X mX2_numberOf d kc ks [.int a, .int (nI k)] w (pI (fun v => ∃ j : Nat, v = nI j ∧ j < 10000) (fun w' => w' = w)) := by
  refine jMet_of hs (by decide +kernel) (Nat.le_of_ble_eq_true rfl) (L := [some (.int a), some (.int (nI k)), none, none, none, none]) rfl ?_
  have h2k : 2 ^ k ≤ 128 := Nat.le_trans (Nat.pow_le_pow_right (by decide) hy0) (by decide)
  have h2p : 1 ≤ 2 ^ k := Nat.pow_pos (by decide)
  refine J_iconst (pc := 0) (v := nI 0) dX2_numberOf_0 (by decide) ?_
  refine J_istore_n (pc := 1) dX2_numberOf_1 rfl (by decide) rfl ?_
  show J X mX2_numberOf d kc ks 2 [some (.int a), some (.int (nI k)), some (.int (nI 0)), none, none, none] [] w _
  refine J_iconst (pc := 2) (v := nI 1) dX2_numberOf_2 (by decide) ?_
  refine J_iload_n (pc := 3) dX2_numberOf_3 rfl rfl ?_
  refine J_shl1 (pc := 4) dX2_numberOf_4 (by omega) ?_
  refine J_iconst (pc := 5) (v := nI 1) dX2_numberOf_5 (by decide) ?_
  refine J_isubN (pc := 6) dX2_numberOf_6 (by omega) ?_
  refine J_istore_n (pc := 7) dX2_numberOf_7 rfl (by decide) rfl ?_
  show J X mX2_numberOf d kc ks 8 [some (.int a), some (.int (nI k)), some (.int (nI 0)), some (.int (nI ((2 ^ k) - 1))), none, none] [] w _
  refine J_iconst (pc := 8) (v := nI 0) dX2_numberOf_8 (by decide) ?_
  refine J_istore (pc := 9) dX2_numberOf_9 (by decide) rfl ?_
  show J X mX2_numberOf d kc ks 11 [some (.int a), some (.int (nI k)), some (.int (nI 0)), some (.int (nI ((2 ^ k) - 1))), some (.int (nI 0)), none] [] w _
  have lp11_2 : ∀ (fuel : Nat) (y2 : Nat) (y3 : Nat) (c4 : Nat), (c4 ≤ k) → (y3 < 128) → (y2 ≤ nb k c4) → (k - c4 < fuel) → J X mX2_numberOf d kc ks 11 [some (.int a), some (.int (nI k)), some (.int (nI y2)), some (.int (nI y3)), some (.int (nI c4)), none] [] w (pI (fun v => ∃ j : Nat, v = nI j ∧ j < 10000) (fun w' => w' = w)) := by
    intro fuellp11_2
    induction fuellp11_2 with
    | zero => intros; omega
    | succ fuellp11_2 ihlp11_2 =>
      intro y2 y3 c4 hv11_0 hv11_1 hv11_2 hf1
      refine J_iload (pc := 11) dX2_numberOf_11 rfl ?_
      refine J_iload_n (pc := 13) dX2_numberOf_13 rfl rfl ?_
      refine J_icmp_geN (pc := 14) (tgt := 54) dX2_numberOf_14 (by decide) (by omega) (by omega) (fun ht3 => ?_) (fun hf4 => ?_)
      · refine J_iload_n (pc := 54) dX2_numberOf_54 rfl rfl ?_
        exact J_iret (pc := 55) dX2_numberOf_55 rfl ⟨⟨y2, rfl, by exact Nat.lt_of_le_of_lt (Nat.le_trans hv11_2 (by rw [show c4 = k by omega]; exact nb_le k (by omega))) (by decide)⟩, rfl⟩
      · refine J_iload_n (pc := 17) dX2_numberOf_17 rfl rfl ?_
        refine J_iload (pc := 18) dX2_numberOf_18 rfl ?_
        refine J_callS0 (pc := 20) (M := mX2_numberOf) (as := [.int a, .int (nI c4)]) dX2_numberOf_20 fw_X2_goal fl_X2_16 fs_X2_goal rfl (c_X2_goal hs (d := d - 1) (by omega) (w := w) a (nI c4) (kc := 0) (ks := 0)) (by omega) (st := []) (Nat.le_of_ble_eq_true rfl) rfl (kr_P fun v5 hv5 => ?_) kx_I
        obtain ⟨k5, rfl, hk5⟩ := hv5
        refine J_istore (pc := 23) dX2_numberOf_23 (by decide) rfl ?_
        show J X mX2_numberOf d kc ks 25 [some (.int a), some (.int (nI k)), some (.int (nI y2)), some (.int (nI y3)), some (.int (nI c4)), some (.int (nI k5))] [] w _
        refine J_iload_n (pc := 25) dX2_numberOf_25 rfl rfl ?_
        refine J_iload_n (pc := 26) dX2_numberOf_26 rfl rfl ?_
        refine J_iload (pc := 27) dX2_numberOf_27 rfl ?_
        refine J_isubN (pc := 29) dX2_numberOf_29 (by omega) ?_
        refine J_imulN (pc := 30) dX2_numberOf_30 ?_
        refine J_iload_n (pc := 31) dX2_numberOf_31 rfl rfl ?_
        refine J_iload (pc := 32) dX2_numberOf_32 rfl ?_
        refine J_callSN0 (pc := 34) (M := mX2_numberOf) (as := [.int (nI y3), .int (nI k5)]) dX2_numberOf_34 fw_X6_howManyBelow fl_X2_19 fs_X6_howManyBelow rfl (c_X6_howManyBelow_atn hs (d := d - 1) (by omega) (w := w) y3 (nI k5) (by omega) (kc := 0) (ks := 0)) (by omega) (st := [.int (nI (y2 * (k - c4)))]) (Nat.le_of_ble_eq_true rfl) rfl (kr_P fun v6 hv6 => ?_) kx_I
        obtain ⟨k6, rfl, hk6⟩ := hv6
        refine J_iaddN (pc := 37) dX2_numberOf_37 ?_
        refine J_istore_n (pc := 38) dX2_numberOf_38 rfl (by decide) rfl ?_
        show J X mX2_numberOf d kc ks 39 [some (.int a), some (.int (nI k)), some (.int (nI ((y2 * (k - c4)) + k6))), some (.int (nI y3)), some (.int (nI c4)), some (.int (nI k5))] [] w _
        refine J_iload_n (pc := 39) dX2_numberOf_39 rfl rfl ?_
        refine J_iconst (pc := 40) (v := nI 1) dX2_numberOf_40 (by decide) ?_
        refine J_iload (pc := 41) dX2_numberOf_41 rfl ?_
        refine J_ishl (pc := 43) dX2_numberOf_43 (J_absI fun x7 => ?_)
        refine J_iconst (pc := 44) (v := (-1)) dX2_numberOf_44 (by decide) ?_
        refine J_ixor (pc := 45) dX2_numberOf_45 (J_absI fun x8 => ?_)
        refine J_andLe (pc := 46) dX2_numberOf_46 (by omega) (fun k9 hk9 => ?_)
        refine J_istore_n (pc := 47) dX2_numberOf_47 rfl (by decide) rfl ?_
        show J X mX2_numberOf d kc ks 48 [some (.int a), some (.int (nI k)), some (.int (nI ((y2 * (k - c4)) + k6))), some (.int (nI k9)), some (.int (nI c4)), some (.int (nI k5))] [] w _
        refine J_iincN (pc := 48) (b := 1) dX2_numberOf_48 rfl (by decide) (by decide) rfl ?_
        show J X mX2_numberOf d kc ks 51 [some (.int a), some (.int (nI k)), some (.int (nI ((y2 * (k - c4)) + k6))), some (.int (nI k9)), some (.int (nI (c4 + 1))), some (.int (nI k5))] [] w _
        refine J_goto (pc := 51) (tgt := 11) dX2_numberOf_51 (by decide) ?_
        exact J_sub (L' := [some (.int a), some (.int (nI k)), some (.int (nI ((y2 * (k - c4)) + k6))), some (.int (nI k9)), some (.int (nI (c4 + 1))), none]) ⟨rfl, ⟨rfl, ⟨rfl, ⟨rfl, ⟨rfl, trivial⟩⟩⟩⟩⟩ (ihlp11_2 ((y2 * (k - c4)) + k6) k9 (c4 + 1) (by first | assumption | omega) (by first | assumption | omega) (by exact Nat.add_le_add (Nat.mul_le_mul_right _ hv11_2) (by omega)) (by omega))
  exact J_sub (L' := [some (.int a), some (.int (nI k)), some (.int (nI 0)), some (.int (nI ((2 ^ k) - 1))), some (.int (nI 0)), none]) ⟨rfl, ⟨rfl, ⟨rfl, ⟨rfl, ⟨rfl, trivial⟩⟩⟩⟩⟩ (lp11_2 _ 0 ((2 ^ k) - 1) 0 (by first | assumption | omega) (by first | assumption | omega) (by exact Nat.le_refl _) (Nat.lt_succ_self _))
set_option maxRecDepth 100000 in
set_option maxHeartbeats 40000000 in
theorem c_X6_list {X : jX} (hs : X.1.stackTraces = false) {d : Nat} (hd : 14 ≤ d) (hXO : XO X) {n : Nat} {e r q : Int32} (hn1 : 2 ≤ n) (hn2 : n ≤ 7) {w : List jC} (hS : SH (rX n e r q) w) (a : Int32) (c : Int32) {kc ks : Nat} (hkc : 40 ≤ kc) (hks : 1500 ≤ ks) : jMet X mX6_list d kc ks [.ref 0, .int a, .int c] w (pX (pA (fun rr w' => SH (rX n e r q) w' ∧ Fr kX w w')) (fun E w' => (E = "java/lang/IllegalArgumentException") ∧ rS n e r q w w')) := by
  refine jMet_of hs (by decide +kernel) (Nat.le_of_ble_eq_true rfl) (L := [some (.ref 0), some (.int a), some (.int c), none, none]) rfl ?_
  have hG : Fr kX w w := Fr.rf
  refine J_iload_n (pc := 0) dX6_list_0 rfl rfl ?_
  refine J_callS (pc := 1) (M := mX6_list) (as := [.int a]) dX6_list_1 fw_X6_needSet fl_X6_131 fs_X6_needSet rfl (c_X6_needSet hs (d := d - 1) (by omega) (w := w) a (kc := 1) (ks := 6) (Nat.le_refl _) (Nat.le_refl _)) (by omega) (by omega) (by omega) (st := []) (Nat.le_of_ble_eq_true rfl) rfl (kr_X (kr_V fun w1 hw1 => ?_)) (kx_X fun E1 w1 hx1 => ?_)
  · obtain rfl := hw1.symm
    refine J_iload_n (pc := 4) dX6_list_4 rfl rfl ?_
    refine J_if_lt (pc := 5) (tgt := 12) dX6_list_5 (by decide) (fun ht2 => ?_) (fun hf3 => ?_)
    · refine J_iconst (pc := 12) (v := nI 0) dX6_list_12 (by decide) ?_
      refine J_callS (pc := 13) (M := mX6_list) (as := [.int (nI 0)]) dX6_list_13 fw_X6_need fl_X6_99 fs_X6_need rfl (c_X6_need hs (d := d - 1) (by omega) (w := w) 0 (by omega) (kc := 1) (ks := 6) (Nat.le_refl _) (Nat.le_refl _)) (by omega) (by omega) (by omega) (st := []) (Nat.le_of_ble_eq_true rfl) rfl (kr_X (kr_V fun w4 hw4 => ?_)) (kx_X fun E4 w4 hx4 => ?_)
      · exact absurd rfl hw4.2
      · exact JX_out (fun _ h => nomatch h) (by obtain ⟨h1, h2⟩ := hx4; exact ⟨h1, by subst h2; exact ⟨hS.push, hG.tr Fr.push⟩⟩)
    · refine J_iconst (pc := 8) (v := nI 1) dX6_list_8 (by decide) ?_
      refine J_goto (pc := 9) (tgt := 13) dX6_list_9 (by decide) ?_
      refine J_callS (pc := 13) (M := mX6_list) (as := [.int (nI 1)]) dX6_list_13 fw_X6_need fl_X6_99 fs_X6_need rfl (c_X6_need hs (d := d - 1) (by omega) (w := w) 1 (by omega) (kc := 1) (ks := 6) (Nat.le_refl _) (Nat.le_refl _)) (by omega) (by omega) (by omega) (st := []) (Nat.le_of_ble_eq_true rfl) rfl (kr_X (kr_V fun w5 hw5 => ?_)) (kx_X fun E5 w5 hx5 => ?_)
      · obtain ⟨hq5, hp5⟩ := hw5
        obtain rfl := hq5.symm
        refine J_aload_n (pc := 16) dX6_list_16 rfl rfl rfl ?_
        obtain ⟨_, hc6, rfl⟩ := hS 0 _ rfl
        refine J_get (pc := 17) (k := 1) dX6_list_17 kC7 (by decide) ff_X6_16 hc6 rfl ?_
        refine J_aload_n (pc := 20) dX6_list_20 rfl rfl rfl ?_
        refine J_get (pc := 21) (k := 0) dX6_list_21 kC7 (by decide) ff_X6_9 hc6 rfl ?_
        refine J_iload_n (pc := 24) dX6_list_24 rfl rfl ?_
        refine J_ldc (pc := 25) (v := nI 1754760) dX6_list_25 (by have := fk_X6_56; exact this) ?_
        refine J_aload_n (pc := 27) dX6_list_27 rfl rfl rfl ?_
        refine J_get (pc := 28) (k := 5) dX6_list_28 kC7 (by decide) ff_X6_41 hc6 rfl ?_
        obtain ⟨_, hc8, ka8, kf8, kb8, kg8, rfl, hb8_0, hb8_1⟩ := hS 2 _ rfl
        refine J_callV0 (pc := 31) (M := mX6_list) (as := [.ref 1, .int a, .int (nI 1754760), .int (nI n)]) dX6_list_31 fw_X0_raise fl_X6_134 fm_X0_raise fe_X0_raise hc8 (by decide) rfl rfl rfl (c_X0_raise hs (d := d - 1) (by omega) (e := e) (r := r) (q := q) hn1 hn2 hS (w := w) a (nI 1754760) (kc := 0) (ks := 0)) (by omega) (st := []) (Nat.le_of_ble_eq_true rfl) rfl (kr_V fun w7 hw7 => ?_) kx_V
        obtain ⟨hS7, hF7⟩ := hw7
        have hG7 := hG.tr hF7
        have qS9 : 18 < w7.length := hS7.lt (by show 18 < 19; decide)
        have qG9 := hG7.1
        refine J_newO (pc := 34) (M := mX6_list) (fs := [.null, .int (nI 0), .int (nI 0), .int (nI 0)]) dX6_list_34 kC1 fc_X6_147 fi_J4 fz_J4 df_J4 (by omega) (by omega) (fun a34 w9 ha9 hln9 hc9 hne9 => ?_)
        have hS9 := hS7.gr (fun i hi => hne9 i (by omega))
        have hG9 := hG7.gr (by omega) (fun i hi => hne9 i (by omega))
        have qa9 : 19 ≤ a34 := by omega
        have qw9 : w.length ≤ a34 := by omega
        have qww : 19 ≤ w.length := Nat.lt_of_lt_of_le (by decide : 18 < 19) (Nat.succ_le_of_lt (hS.lt (a := 18) (by show 18 < 19; decide)))
        refine J_dup (pc := 37) dX6_list_37 rfl ?_
        refine J_callI (pc := 38) (M := mX6_list) (as := []) dX6_list_38 fw_J4_init_da8c8 fl_X6_149 fm_J4_init_da8c8 rfl rfl rfl (c_J4_init_da8c8 hs (d := d - 1) (by omega) (w := w9) a34 hc9 (kc := 1) (ks := 16) (Nat.le_refl _) (Nat.le_refl _)) (by omega) (by omega) (by omega) (st := [.ref a34]) (Nat.le_of_ble_eq_true rfl) rfl (kr_V fun w10 hw10 => ?_) kx_V
        obtain ⟨v10', ys10, hB10, hFc10, hvv10⟩ := hw10
        have hgl10 := hFc10.1
        have hbl10 := hB10.2.2.2.2.1
        have hS10 := rX_fs hS9 hFc10 (by omega) (by omega)
        have hG10 := hG9.sb hFc10 (by omega) (by omega)
        refine J_astore_n (pc := 41) dX6_list_41 rfl (by decide) rfl rfl ?_
        show J X mX6_list d (kc - 1 - 1 - 1 - 1) (ks - 6 - 6 - 4 - 16) 42 [some (.ref 0), some (.int a), some (.int c), some (.ref a34), none] [] w10 _
        refine J_iload_n (pc := 42) dX6_list_42 rfl rfl ?_
        refine J_istore (pc := 43) dX6_list_43 (by decide) rfl ?_
        show J X mX6_list d (kc - 1 - 1 - 1 - 1) (ks - 6 - 6 - 4 - 16) 45 [some (.ref 0), some (.int a), some (.int c), some (.ref a34), some (.int c)] [] w10 _
        have lp45_21 : ∀ (fuel : Nat) (kc11 ks12 : Nat) (w13 : List jC) (v_45 k_45 : Nat) (b_45 : List Int32) (z4 : Int32) (g45 : Nat), (SH (rX n e r q) w13) → (Fr kX w w13) → (SBp a34 v_45 (nI 0) k_45 b_45 w13) → (w.length ≤ v_45) → ((620 - b_45.length) / 18 ≤ kc11) → (1240 - 2 * b_45.length ≤ ks12) → (z4 - c = nI g45) → (g45 ≤ 20) → (k_45 ≤ 5 * g45) → (20 - g45 < fuel) → J X mX6_list d kc11 ks12 45 [some (.ref 0), some (.int a), some (.int c), some (.ref a34), some (.int z4)] [] w13 (pX (pA (fun rr w' => SH (rX n e r q) w' ∧ Fr kX w w')) (fun E w' => (E = "java/lang/IllegalArgumentException") ∧ rS n e r q w w')) := by
          intro fuellp45_21
          induction fuellp45_21 with
          | zero => intros; omega
          | succ fuellp45_21 ihlp45_21 =>
            intro kc11 ks12 w13 v_45 k_45 b_45 z4 g45 hS14 hG15 hB16 hv17 hr18 hr19 hv45_0 hv45_1 hv45_2 hf20
            have qF22 := hG15.1
            refine J_iload (pc := 45) dX6_list_45 rfl ?_
            refine J_aload_n (pc := 47) dX6_list_47 rfl rfl rfl ?_
            obtain ⟨_, hc23, rfl⟩ := hS14 0 _ rfl
            refine J_get (pc := 48) (k := 1) dX6_list_48 kC7 (by decide) ff_X6_16 hc23 rfl ?_
            obtain ⟨_, hc25, ka25, kf25, kb25, kg25, rfl, hb25_0, hb25_1⟩ := hS14 2 _ rfl
            refine J_callV0 (pc := 51) (M := mX6_list) (as := []) dX6_list_51 fw_X0_total fl_X6_138 fm_X0_total fe_X0_total hc25 (by decide) rfl rfl rfl (c_X0_total hs (d := d - 1) (by omega) (e := e) (r := r) (q := q) hn1 hn2 hS14 (w := w13)  (kc := 0) (ks := 0)) (by omega) (st := [.int z4]) (Nat.le_of_ble_eq_true rfl) rfl (kr_P fun v24 hv24 => ?_) kx_I
            refine J_icmp_ge (pc := 54) (tgt := 94) dX6_list_54 (by decide) (fun ht26 => ?_) (fun hf27 => ?_)
            · refine J_aload_n (pc := 94) dX6_list_94 rfl rfl rfl ?_
              have hB128 := hB16.2.2.2.1
              have hB328 := hB16.2.2.2.2.2
              refine J_callV (pc := 95) (M := mX6_list) (as := []) dX6_list_95 fw_J4_toString_0e30d fl_X6_154 fm_J4_toString_0e30d fe_J4_toString_0e30d hB16.1 (by decide) rfl rfl rfl (c_J4_toString_0e30d hs (d := d - 1) (by omega) (a := a34) (v := v_45) (c := k_45) (bs := b_45) (w := w13) hB16 (kc := 2) (ks := k_45 + 4) (Nat.le_refl _) (Nat.le_refl _)) (by omega) (by omega) (by omega) (st := []) (Nat.le_of_ble_eq_true rfl) rfl (kr_A fun r28 w28 hw28 => ?_) kx_A
              obtain ⟨hra28, hln28, hne28, vz28, zs28, hco28, hcn28, hyl28⟩ := hw28
              have hS28 := hS14.gr hne28
              have hG28 := hG15.gr hln28 hne28
              exact J_aret (pc := 98) dX6_list_98 rfl rfl rfl ⟨hS28, hG28⟩
            · refine J_iload (pc := 57) dX6_list_57 rfl ?_
              refine J_iload_n (pc := 59) dX6_list_59 rfl rfl ?_
              refine J_isub (pc := 60) dX6_list_60 ?_
              rw [hv45_0]
              refine J_bipush (pc := 61) (v := nI 20) dX6_list_61 (by decide) ?_
              refine J_icmp_geN (pc := 63) (tgt := 94) dX6_list_63 (by decide) (by omega) (by omega) (fun ht29 => ?_) (fun hf30 => ?_)
              · refine J_aload_n (pc := 94) dX6_list_94 rfl rfl rfl ?_
                have hB131 := hB16.2.2.2.1
                have hB331 := hB16.2.2.2.2.2
                refine J_callV (pc := 95) (M := mX6_list) (as := []) dX6_list_95 fw_J4_toString_0e30d fl_X6_154 fm_J4_toString_0e30d fe_J4_toString_0e30d hB16.1 (by decide) rfl rfl rfl (c_J4_toString_0e30d hs (d := d - 1) (by omega) (a := a34) (v := v_45) (c := k_45) (bs := b_45) (w := w13) hB16 (kc := 2) (ks := k_45 + 4) (Nat.le_refl _) (Nat.le_refl _)) (by omega) (by omega) (by omega) (st := []) (Nat.le_of_ble_eq_true rfl) rfl (kr_A fun r31 w31 hw31 => ?_) kx_A
                obtain ⟨hra31, hln31, hne31, vz31, zs31, hco31, hcn31, hyl31⟩ := hw31
                have hS31 := hS14.gr hne31
                have hG31 := hG15.gr hln31 hne31
                exact J_aret (pc := 98) dX6_list_98 rfl rfl rfl ⟨hS31, hG31⟩
              · refine J_aload_n (pc := 66) dX6_list_66 rfl rfl rfl ?_
                refine J_aload_n (pc := 67) dX6_list_67 rfl rfl rfl ?_
                refine J_get (pc := 68) (k := 1) dX6_list_68 kC7 (by decide) ff_X6_16 hc23 rfl ?_
                refine J_iload (pc := 71) dX6_list_71 rfl ?_
                refine J_ldc (pc := 73) (v := nI 1754760) dX6_list_73 (by have := fk_X6_56; exact this) ?_
                refine J_callV0 (pc := 75) (M := mX6_list) (as := [.int z4, .int (nI 1754760)]) dX6_list_75 fw_X0_moveAt fl_X6_141 fm_X0_moveAt fe_X0_moveAt hc25 (by decide) rfl rfl rfl (c_X0_moveAt hs (d := d - 1) (by omega) (e := e) (r := r) (q := q) hn1 hn2 hS14 (w := w13) z4 (nI 1754760) (kc := 0) (ks := 0)) (by omega) (st := [.ref a34]) (Nat.le_of_ble_eq_true rfl) rfl (kr_P fun v32 hv32 => ?_) kx_I
                refine J_aload_n (pc := 78) dX6_list_78 rfl rfl rfl ?_
                refine J_get (pc := 79) (k := 5) dX6_list_79 kC7 (by decide) ff_X6_41 hc23 rfl ?_
                refine J_callS0 (pc := 82) (M := mX6_list) (as := [.int v32, .int (nI n)]) dX6_list_82 fw_X2_numberOf fl_X6_75 fs_X2_numberOf rfl (c_X2_numberOf_atn hs (d := d - 1) (by omega) (w := w13) v32 n (by omega) (kc := 0) (ks := 0)) (by omega) (st := [.ref a34]) (Nat.le_of_ble_eq_true rfl) rfl (kr_P fun v33 hv33 => ?_) kx_I
                obtain ⟨k33, rfl, hk33⟩ := hv33
                have hgf35 := gw_f k_45 k33 b_45.length
                have hgf36 := dgs_le k33
                have hB134 := hB16.2.2.2.1
                have hB234 := hB16.2.2.2.2.1
                have hB334 := hB16.2.2.2.2.2
                refine J_callS (pc := 85) (M := mX6_list) (as := [.ref a34, .int (nI k33)]) dX6_list_85 fw_X6_addWord fl_X6_150 fs_X6_addWord rfl (c_X6_addWord hs (d := d - 1) (by omega) hXO (a := a34) (v := v_45) (c := k_45) (bs := b_45) (w := w13) hB16 k33 (by omega) (by omega) (kc := ((gw k_45 k33 b_45.length - b_45.length) / 18)) (ks := (2 * (gw k_45 k33 b_45.length - b_45.length))) (Nat.le_refl _) (Nat.le_refl _)) (by omega) (by omega) (by omega) (st := []) (Nat.le_of_ble_eq_true rfl) rfl (kr_V fun w34 hw34 => ?_) kx_V
                obtain ⟨c34, v34', ys34, hB34, hFc34, hvv34, hc134, hc234, hp34⟩ := hw34
                have hgl34 := hFc34.1
                have hB434 := hB34.2.2.2.1
                have hB534 := hB34.2.2.2.2.2
                have hB634 := hB34.2.2.2.2.1
                have hS34 := rX_fs hS14 hFc34 (by omega) (by omega)
                have hG34 := hG15.sb hFc34 (by omega) (by omega)
                refine J_iinc (pc := 88) dX6_list_88 rfl rfl (by decide) rfl ?_
                show J X mX6_list d (kc11 - ((gw k_45 k33 b_45.length - b_45.length) / 18)) (ks12 - (2 * (gw k_45 k33 b_45.length - b_45.length))) 91 [some (.ref 0), some (.int a), some (.int c), some (.ref a34), some (.int (z4 + Int32.ofInt 1))] [] w34 _
                refine J_goto (pc := 91) (tgt := 45) dX6_list_91 (by decide) ?_
                exact J_sub (L' := [some (.ref 0), some (.int a), some (.int c), some (.ref a34), some (.int (z4 + Int32.ofInt 1))]) ⟨rfl, ⟨rfl, ⟨rfl, ⟨rfl, ⟨rfl, trivial⟩⟩⟩⟩⟩ (ihlp45_21 _ _ w34 v34' c34 ys34 (z4 + Int32.ofInt 1) (g45 + 1) hS34 hG34 hB34 (by omega) (by omega) (by omega) (by rw [inc_sub, hv45_0, nI_add]) (by first | assumption | omega) (by first | assumption | omega) (by omega))
        exact J_sub (L' := [some (.ref 0), some (.int a), some (.int c), some (.ref a34), some (.int c)]) ⟨rfl, ⟨rfl, ⟨rfl, ⟨rfl, ⟨rfl, trivial⟩⟩⟩⟩⟩ (lp45_21 _ _ _ w10 v10' 0 ys10 c 0 hS10 hG10 hB10 (by omega) (by omega) (by omega) (by exact Int32.sub_self _) (by first | assumption | omega) (by first | assumption | omega) (Nat.lt_succ_self _))
      · exact JX_out (fun _ h => nomatch h) (by obtain ⟨h1, h2⟩ := hx5; exact ⟨h1, by subst h2; exact ⟨hS.push, hG.tr Fr.push⟩⟩)
  · exact JX_out (fun _ h => nomatch h) (by obtain ⟨h1, h2⟩ := hx1; exact ⟨h1, by subst h2; exact ⟨hS.push, hG.tr Fr.push⟩⟩)
