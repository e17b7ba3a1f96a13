/-! texts of the class -/
set_option maxRecDepth 100000 in
set_option maxHeartbeats 40000000 in
theorem c_X6_ringText {X : jX} (hs : X.1.stackTraces = false) {d : Nat} (hd : 14 ≤ d) (hXO : XO X) {n : Nat} {e r q : Int32} (hn1 : 2 ≤ n) (hn2 : n ≤ 7) {w : List jC} (hS : SH (rX n e r q) w) (a : Int32) (c : Int32) {kc ks : Nat} (hkc : 40 ≤ kc) (hks : 1500 ≤ ks) : jMet X mX6_ringText d kc ks [.ref 0, .int a, .int c] w (pX (pA (fun rr w' => SH (rX n e r q) w' ∧ Fr kX w w')) (fun E w' => (E = "java/lang/IndexOutOfBoundsException") ∧ rS n e r q w w')) := by
  refine jMet_of hs (by decide +kernel) (Nat.le_of_ble_eq_true rfl) (L := [some (.ref 0), some (.int a), some (.int c), none, none, none]) rfl ?_
  have hG : Fr kX w w := Fr.rf
  refine J_iload_n (pc := 0) dX6_ringText_0 rfl rfl ?_
  refine J_callS (pc := 1) (M := mX6_ringText) (as := [.int a]) dX6_ringText_1 fw_X6_needCell fl_X6_67 fs_X6_needCell rfl (c_X6_needCell hs (d := d - 1) (by omega) (w := w) a (kc := 1) (ks := 6) (Nat.le_refl _) (Nat.le_refl _)) (by omega) (by omega) (by omega) (st := []) (Nat.le_of_ble_eq_true rfl) rfl (kr_X (kr_V fun w1 hw1 => ?_)) (kx_X fun E1 w1 hx1 => ?_)
  · obtain ⟨hq1, hp1⟩ := hw1
    obtain rfl := hq1.symm
    obtain ⟨b1, hb1, rfl⟩ := hp1
    refine J_aload_n (pc := 4) dX6_ringText_4 rfl rfl rfl ?_
    refine J_iload_n (pc := 5) dX6_ringText_5 rfl rfl ?_
    obtain ⟨_, hc3, rfl⟩ := hS 0 _ rfl
    refine J_callV (pc := 6) (M := mX6_ringText) (as := [.int c]) dX6_ringText_6 fw_X6_needPoint fl_X6_86 fm_X6_needPoint fe_X6_needPoint hc3 (by decide) rfl rfl rfl (c_X6_needPoint hs (d := d - 1) (by omega) (e := e) (r := r) (q := q) hn1 hn2 hS (w := w) c (kc := 1) (ks := 6) (Nat.le_refl _) (Nat.le_refl _)) (by omega) (by omega) (by omega) (st := []) (Nat.le_of_ble_eq_true rfl) rfl (kr_X (kr_V fun w2 hw2 => ?_)) (kx_X fun E2 w2 hx2 => ?_)
    · obtain ⟨hq2, hp2⟩ := hw2
      obtain rfl := hq2.symm
      obtain ⟨b2, hb2, rfl⟩ := hp2
      have qS4 : 18 < w.length := hS.lt (by show 18 < 19; decide)
      have qG4 := hG.1
      refine J_newO (pc := 9) (M := mX6_ringText) (fs := [.null, .int (nI 0), .int (nI 0), .int (nI 0)]) dX6_ringText_9 kC1 fc_X6_147 fi_J4 fz_J4 df_J4 (by omega) (by omega) (fun a9 w4 ha4 hln4 hc4 hne4 => ?_)
      have hS4 := hS.gr (fun i hi => hne4 i (by omega))
      have hG4 := hG.gr (by omega) (fun i hi => hne4 i (by omega))
      have qa4 : 19 ≤ a9 := by omega
      have qw4 : w.length ≤ a9 := by omega
      have qww : 19 ≤ w.length := Nat.lt_of_lt_of_le (by decide : 18 < 19) (Nat.succ_le_of_lt (hS.lt (a := 18) (by show 18 < 19; decide)))
      refine J_dup (pc := 12) dX6_ringText_12 rfl ?_
      refine J_callI (pc := 13) (M := mX6_ringText) (as := []) dX6_ringText_13 fw_J4_init_da8c8 fl_X6_149 fm_J4_init_da8c8 rfl rfl rfl (c_J4_init_da8c8 hs (d := d - 1) (by omega) (w := w4) a9 hc4 (kc := 1) (ks := 16) (Nat.le_refl _) (Nat.le_refl _)) (by omega) (by omega) (by omega) (st := [.ref a9]) (Nat.le_of_ble_eq_true rfl) rfl (kr_V fun w5 hw5 => ?_) kx_V
      obtain ⟨v5', ys5, hB5, hFc5, hvv5⟩ := hw5
      have hgl5 := hFc5.1
      have hbl5 := hB5.2.2.2.2.1
      have hS5 := rX_fs hS4 hFc5 (by omega) (by omega)
      have hG5 := hG4.sb hFc5 (by omega) (by omega)
      refine J_astore_n (pc := 16) dX6_ringText_16 rfl (by decide) rfl rfl ?_
      show J X mX6_ringText d (kc - 1 - 1 - 1 - 1) (ks - 6 - 6 - 4 - 16) 17 [some (.ref 0), some (.int (nI b1)), some (.int (nI b2)), some (.ref a9), none, none] [] w5 _
      refine J_iload_n (pc := 17) dX6_ringText_17 rfl rfl ?_
      refine J_istore (pc := 18) dX6_ringText_18 (by decide) rfl ?_
      show J X mX6_ringText d (kc - 1 - 1 - 1 - 1) (ks - 6 - 6 - 4 - 16) 20 [some (.ref 0), some (.int (nI b1)), some (.int (nI b2)), some (.ref a9), some (.int (nI b2)), none] [] w5 _
      refine J_aload_n (pc := 20) dX6_ringText_20 rfl rfl rfl ?_
      obtain ⟨_, hc6, rfl⟩ := hS5 0 _ rfl
      refine J_get (pc := 21) (k := 0) dX6_ringText_21 kC7 (by decide) ff_X6_9 hc6 rfl ?_
      refine J_iload_n (pc := 24) dX6_ringText_24 rfl rfl ?_
      obtain ⟨_, hc7, xs7, rfl, hl7⟩ := hS5 1 _ rfl
      refine J_iald (pc := 25) dX6_ringText_25 hc7 (nI_in (by omega) (by omega)) (J_absI fun x8 => ?_)
      refine J_iload_n (pc := 26) dX6_ringText_26 rfl rfl ?_
      refine J_callS0 (pc := 27) (M := mX6_ringText) (as := [.int x8, .int (nI b2)]) dX6_ringText_27 fw_X2_ringLength fl_X6_161 fs_X2_ringLength rfl (c_X2_ringLength hs (d := d - 1) (by omega) (w := w5) x8 (nI b2) (kc := 0) (ks := 0)) (by omega) (st := []) (Nat.le_of_ble_eq_true rfl) rfl (kr_P fun v9 hv9 => ?_) kx_I
      obtain ⟨k9, rfl, hk9⟩ := hv9
      refine J_istore (pc := 30) dX6_ringText_30 (by decide) rfl ?_
      show J X mX6_ringText d (kc - 1 - 1 - 1 - 1) (ks - 6 - 6 - 4 - 16) 32 [some (.ref 0), some (.int (nI b1)), some (.int (nI b2)), some (.ref a9), some (.int (nI b2)), some (.int (nI k9))] [] w5 _
      have lp32_20 : ∀ (fuel : Nat) (kc10 ks11 : Nat) (w12 : List jC) (v_32 k_32 : Nat) (b_32 : List Int32) (y4 : Nat) (c5 : Nat), (SH (rX n e r q) w12) → (Fr kX w w12) → (SBp a9 v_32 (nI 0) k_32 b_32 w12) → (w.length ≤ v_32) → ((620 - b_32.length) / 18 ≤ kc10) → (1240 - 2 * b_32.length ≤ ks11) → (y4 < 8) → (c5 ≤ 63) → (k_32 + 2 * c5 ≤ 126) → (c5 < fuel) → J X mX6_ringText d kc10 ks11 32 [some (.ref 0), some (.int (nI b1)), some (.int (nI b2)), some (.ref a9), some (.int (nI y4)), some (.int (nI c5))] [] w12 (pX (pA (fun rr w' => SH (rX n e r q) w' ∧ Fr kX w w')) (fun E w' => (E = "java/lang/IndexOutOfBoundsException") ∧ rS n e r q w w')) := by
        intro fuellp32_20
        induction fuellp32_20 with
        | zero => intros; omega
        | succ fuellp32_20 ihlp32_20 =>
          intro kc10 ks11 w12 v_32 k_32 b_32 y4 c5 hS13 hG14 hB15 hv16 hr17 hr18 hv32_0 hv32_1 hv32_2 hf19
          have qF21 := hG14.1
          refine J_iload (pc := 32) dX6_ringText_32 rfl ?_
          refine J_if_leN (pc := 34) (tgt := 62) dX6_ringText_34 (by decide) (by omega) (fun ht22 => ?_) (fun hf23 => ?_)
          · refine J_aload_n (pc := 62) dX6_ringText_62 rfl rfl rfl ?_
            have hB124 := hB15.2.2.2.1
            have hB324 := hB15.2.2.2.2.2
            refine J_callV (pc := 63) (M := mX6_ringText) (as := []) dX6_ringText_63 fw_J4_toString_0e30d fl_X6_154 fm_J4_toString_0e30d fe_J4_toString_0e30d hB15.1 (by decide) rfl rfl rfl (c_J4_toString_0e30d hs (d := d - 1) (by omega) (a := a9) (v := v_32) (c := k_32) (bs := b_32) (w := w12) hB15 (kc := 2) (ks := k_32 + 4) (Nat.le_refl _) (Nat.le_refl _)) (by omega) (by omega) (by omega) (st := []) (Nat.le_of_ble_eq_true rfl) rfl (kr_A fun r24 w24 hw24 => ?_) kx_A
            obtain ⟨hra24, hln24, hne24, vz24, zs24, hco24, hcn24, hyl24⟩ := hw24
            have hS24 := hS13.gr hne24
            have hG24 := hG14.gr hln24 hne24
            exact J_aret (pc := 66) dX6_ringText_66 rfl rfl rfl ⟨hS24, hG24⟩
          · refine J_aload_n (pc := 37) dX6_ringText_37 rfl rfl rfl ?_
            refine J_iload (pc := 38) dX6_ringText_38 rfl ?_
            have hgf26 := gw_f k_32 y4 b_32.length
            have hgf27 := dgs_le y4
            have hgf28 := dgs_1 (x := y4) (by omega)
            have hB125 := hB15.2.2.2.1
            have hB225 := hB15.2.2.2.2.1
            have hB325 := hB15.2.2.2.2.2
            refine J_callS (pc := 40) (M := mX6_ringText) (as := [.ref a9, .int (nI y4)]) dX6_ringText_40 fw_X6_addWord fl_X6_150 fs_X6_addWord rfl (c_X6_addWord hs (d := d - 1) (by omega) hXO (a := a9) (v := v_32) (c := k_32) (bs := b_32) (w := w12) hB15 y4 (by omega) (by omega) (kc := ((gw k_32 y4 b_32.length - b_32.length) / 18)) (ks := (2 * (gw k_32 y4 b_32.length - b_32.length))) (Nat.le_refl _) (Nat.le_refl _)) (by omega) (by omega) (by omega) (st := []) (Nat.le_of_ble_eq_true rfl) rfl (kr_V fun w25 hw25 => ?_) kx_V
            obtain ⟨c25, v25', ys25, hB25, hFc25, hvv25, hc125, hc225, hp25⟩ := hw25
            have hgl25 := hFc25.1
            have hB425 := hB25.2.2.2.1
            have hB525 := hB25.2.2.2.2.2
            have hB625 := hB25.2.2.2.2.1
            have hS25 := rX_fs hS13 hFc25 (by omega) (by omega)
            have hG25 := hG14.sb hFc25 (by omega) (by omega)
            refine J_aload_n (pc := 43) dX6_ringText_43 rfl rfl rfl ?_
            obtain ⟨_, hc29, rfl⟩ := hS25 0 _ rfl
            refine J_get (pc := 44) (k := 0) dX6_ringText_44 kC7 (by decide) ff_X6_9 hc29 rfl ?_
            refine J_iload_n (pc := 47) dX6_ringText_47 rfl rfl ?_
            obtain ⟨_, hc30, xs30, rfl, hl30⟩ := hS25 1 _ rfl
            refine J_iald (pc := 48) dX6_ringText_48 hc30 (nI_in (by omega) (by omega)) (J_absI fun x31 => ?_)
            refine J_iload (pc := 49) dX6_ringText_49 rfl ?_
            refine J_callS0 (pc := 51) (M := mX6_ringText) (as := [.int x31, .int (nI y4)]) dX6_ringText_51 fw_X2_goal fl_X6_144 fs_X2_goal rfl (c_X2_goal hs (d := d - 1) (by omega) (w := w25) x31 (nI y4) (kc := 0) (ks := 0)) (by omega) (st := []) (Nat.le_of_ble_eq_true rfl) rfl (kr_P fun v32 hv32 => ?_) kx_I
            obtain ⟨k32, rfl, hk32⟩ := hv32
            refine J_istore (pc := 54) dX6_ringText_54 (by decide) rfl ?_
            show J X mX6_ringText d (kc10 - ((gw k_32 y4 b_32.length - b_32.length) / 18)) (ks11 - (2 * (gw k_32 y4 b_32.length - b_32.length))) 56 [some (.ref 0), some (.int (nI b1)), some (.int (nI b2)), some (.ref a9), some (.int (nI k32)), some (.int (nI c5))] [] w25 _
            refine J_iincM (pc := 56) dX6_ringText_56 rfl (by omega) (by decide) rfl ?_
            show J X mX6_ringText d (kc10 - ((gw k_32 y4 b_32.length - b_32.length) / 18)) (ks11 - (2 * (gw k_32 y4 b_32.length - b_32.length))) 59 [some (.ref 0), some (.int (nI b1)), some (.int (nI b2)), some (.ref a9), some (.int (nI k32)), some (.int (nI (c5 - 1)))] [] w25 _
            refine J_goto (pc := 59) (tgt := 32) dX6_ringText_59 (by decide) ?_
            exact J_sub (L' := [some (.ref 0), some (.int (nI b1)), some (.int (nI b2)), some (.ref a9), some (.int (nI k32)), some (.int (nI (c5 - 1)))]) ⟨rfl, ⟨rfl, ⟨rfl, ⟨rfl, ⟨rfl, ⟨rfl, trivial⟩⟩⟩⟩⟩⟩ (ihlp32_20 _ _ w25 v25' c25 ys25 k32 (c5 - 1) hS25 hG25 hB25 (by omega) (by omega) (by omega) (by first | assumption | omega) (by first | assumption | omega) (by first | assumption | omega) (by omega))
      exact J_sub (L' := [some (.ref 0), some (.int (nI b1)), some (.int (nI b2)), some (.ref a9), some (.int (nI b2)), some (.int (nI k9))]) ⟨rfl, ⟨rfl, ⟨rfl, ⟨rfl, ⟨rfl, ⟨rfl, trivial⟩⟩⟩⟩⟩⟩ (lp32_20 _ _ _ w5 v5' 0 ys5 b2 k9 hS5 hG5 hB5 (by omega) (by omega) (by omega) (by first | assumption | omega) (by first | assumption | omega) (by first | assumption | omega) (Nat.lt_succ_self _))
    · exact JX_out (fun _ h => nomatch h) (by obtain ⟨h1, h2⟩ := hx2; exact ⟨h1, by subst h2; exact ⟨hS.push, hG.tr Fr.push⟩⟩)
  · exact JX_out (fun _ h => nomatch h) (by obtain ⟨h1, h2⟩ := hx1; exact ⟨h1, by subst h2; exact ⟨hS.push, hG.tr Fr.push⟩⟩)
