section
/-! constructors -/
theorem c_fill_len {X : jX} (hs : X.1.stackTraces = false) {d : Nat} {w : List jC} {xs : List Int32} (hw : w[1]? = some (.inl (0, xs))) (hl : xs.length = 6) (a : Int32) {kc ks : Nat} : jMet X mJ7_fill_53178 d kc ks [.ref 1, .int a] w (pV (fun w' => w'.length = w.length ∧ (∃ ys : List Int32, w'[1]? = some (.inl (0, ys)) ∧ ys.length = 6) ∧ ∀ i, i ≠ 1 → w'[i]? = w[i]?)) := by
  refine jMet_of hs (by decide +kernel) (Nat.le_of_ble_eq_true rfl) (L := [some (.ref 1), some (.int a), none, none]) rfl ?_
  refine J_iconst (pc := 0) (v := nI 0) dJ7_fill_53178_0 (by decide) ?_
  refine J_istore_n (pc := 1) dJ7_fill_53178_1 rfl (by decide) rfl ?_
  show J X mJ7_fill_53178 d kc ks 2 [some (.ref 1), some (.int a), some (.int (nI 0)), none] [] w _
  refine J_aload_n (pc := 2) dJ7_fill_53178_2 rfl rfl rfl ?_
  refine J_alen (pc := 3) (n := nI 6) dJ7_fill_53178_3 hw (by decide) (by rw [hl]; rfl) ?_
  refine J_istore_n (pc := 4) dJ7_fill_53178_4 rfl (by decide) rfl ?_
  show J X mJ7_fill_53178 d kc ks 5 [some (.ref 1), some (.int a), some (.int (nI 0)), some (.int (nI 6))] [] w _
  have lp : ∀ (fuel : Nat) (w3 : List jC) (ys : List Int32) (c2 : Nat), w3.length = w.length → w3[1]? = some (.inl (0, ys)) → ys.length = 6 → (∀ i, i ≠ 1 → w3[i]? = w[i]?) → c2 ≤ 6 → 6 - c2 < fuel → J X mJ7_fill_53178 d kc ks 5 [some (.ref 1), some (.int a), some (.int (nI c2)), some (.int (nI 6))] [] w3 (pV (fun w' => w'.length = w.length ∧ (∃ ys : List Int32, w'[1]? = some (.inl (0, ys)) ∧ ys.length = 6) ∧ ∀ i, i ≠ 1 → w'[i]? = w[i]?)) := by
    intro fuel
    induction fuel with
    | zero => intros; omega
    | succ fuel ih =>
      intro w3 ys c2 h1 h2 h3 h4 h5 h6
      refine J_iload_n (pc := 5) dJ7_fill_53178_5 rfl rfl ?_
      refine J_iload_n (pc := 6) dJ7_fill_53178_6 rfl rfl ?_
      refine J_icmp_geN (pc := 7) (tgt := 20) dJ7_fill_53178_7 (by decide) (by omega) (by omega) (fun _ => ?_) (fun hf => ?_)
      · exact J_vret (pc := 20) dJ7_fill_53178_20 rfl ⟨h1, ⟨ys, h2, h3⟩, h4⟩
      · refine J_aload_n (pc := 10) dJ7_fill_53178_10 rfl rfl rfl ?_
        refine J_iload_n (pc := 11) dJ7_fill_53178_11 rfl rfl ?_
        refine J_iload_n (pc := 12) dJ7_fill_53178_12 rfl rfl ?_
        refine J_iastW (pc := 13) dJ7_fill_53178_13 h2 (by rw [h3]; exact nI_in (by omega) (by decide)) (fun w4 hln hc hne => ?_)
        refine J_iincN (pc := 14) (b := 1) dJ7_fill_53178_14 rfl (by decide) (by decide) rfl ?_
        show J X mJ7_fill_53178 d kc ks 17 [some (.ref 1), some (.int a), some (.int (nI (c2 + 1))), some (.int (nI 6))] [] w4 _
        refine J_goto (pc := 17) (tgt := 5) dJ7_fill_53178_17 (by decide) ?_
        exact ih w4 _ (c2 + 1) (hln.trans h1) hc (by rw [List.length_set]; exact h3) (fun i hi => (hne i hi).trans (h4 i hi)) (by omega) (by omega)
  exact lp 7 w xs 0 rfl hw hl (fun _ _ => rfl) (by decide) (by decide)
theorem df_X0 {X : jX} : ∀ j, j < 9 → defaultValue (tyX0 j) = vp_V (([.null, .null, .null, .null, .null, .int (nI 0), .int (nI 0), .int (nI 0), .int (nI 0)] : List Value).map (jT X)) j := by
  intro j hj
  match j with
  | 0 => rfl
  | 1 => rfl
  | 2 => rfl
  | 3 => rfl
  | 4 => rfl
  | 5 => rfl
  | 6 => rfl
  | 7 => rfl
  | 8 => rfl
  | j + 9 => omega
theorem df_X1 {X : jX} : ∀ j, j < 3 → defaultValue (tyX1 j) = vp_V (([.null, .null, .int (nI 0)] : List Value).map (jT X)) j := by
  intro j hj
  match j with
  | 0 => rfl
  | 1 => rfl
  | 2 => rfl
  | j + 3 => omega
theorem df_X3 {X : jX} : ∀ j, j < 4 → defaultValue (tyX3 j) = vp_V (([.null, .null, .int (nI 0), .int (nI 0)] : List Value).map (jT X)) j := by
  intro j hj
  match j with
  | 0 => rfl
  | 1 => rfl
  | 2 => rfl
  | 3 => rfl
  | j + 4 => omega
theorem df_X4 {X : jX} : ∀ j, j < 2 → defaultValue (tyX4 j) = vp_V (([.null, .int (nI 0)] : List Value).map (jT X)) j := by
  intro j hj
  match j with
  | 0 => rfl
  | 1 => rfl
  | j + 2 => omega
theorem df_X5 {X : jX} : ∀ j, j < 2 → defaultValue (tyX5 j) = vp_V (([.null, .int (nI 0)] : List Value).map (jT X)) j := by
  intro j hj
  match j with
  | 0 => rfl
  | 1 => rfl
  | j + 2 => omega
set_option maxRecDepth 100000 in
set_option maxHeartbeats 4000000 in
theorem c_X0_init {X : jX} (hs : X.1.stackTraces = false) {d : Nat} (hd : 2 ≤ d) {w : List jC} (hy0 : w.length = 3) (hy1 : w[2]? = some (.inr (2, [.null, .null, .null, .null, .null, .int (nI 0), .int (nI 0), .int (nI 0), .int (nI 0)]))) {kc ks : Nat} (hkc : 5 ≤ kc) (hks : 165 ≤ ks) : jMet X mX0_init d kc ks [.ref 2] w (pV (fun w' => w'.length = 8 ∧ FS 2 2 w w' ∧ w'[2]? = some (.inr (2, [.ref 3, .ref 4, .ref 5, .ref 6, .ref 7, .int (nI 0), .int (nI 0), .int (nI 1754760), .int (nI 0)])) ∧ w'[3]? = some (.inl (0, List.replicate 64 0)) ∧ w'[4]? = some (.inl (0, List.replicate 64 0)) ∧ w'[5]? = some (.inl (0, List.replicate 8 0)) ∧ w'[6]? = some (.inl (0, List.replicate 8 0)) ∧ w'[7]? = some (.inl (0, List.replicate 21 0)))) := by
  refine jMet_of hs (by decide +kernel) (Nat.le_of_ble_eq_true rfl) (L := [some (.ref 2)]) rfl ?_
  have hdm : 1 ≤ d - 1 := by omega
  have hdp : d - 1 + 1 ≤ d := by omega
  have hF : FS 2 2 w w := FS.rf
  have hgo := gl hy1
  refine J_aload_n (pc := 0) dX0_init_0 rfl rfl rfl ?_
  refine J_objInit (pc := 1) (M := mX0_init) dX0_init_1 fl_X0_1 fm_objectInit fo_c rfl (by omega) (Nat.le_of_ble_eq_true rfl) ?_
  refine J_aload_n (pc := 4) dX0_init_4 rfl rfl rfl ?_
  refine J_bipush (pc := 5) (v := nI 64) dX0_init_5 (by decide) ?_
  have qg21 := gl hy1
  refine J_newW (pc := 7) (M := mX0_init) (N := 64) dX0_init_7 fa_int rfl (by decide) (by omega) (by omega) (fun q7 w1 ha1 hln1 hc1 hne1 => ?_)
  obtain rfl : q7 = 3 := by omega
  have ho2_1 := (hne1 2 (by omega)).trans hy1
  have hF1 := hF.pu ha1 hln1 hne1
  refine J_putW (pc := 9) (k := 0) dX0_init_9 kC2 (by decide) ff_X0_9 (Or.inr ⟨rfl, rfl, rfl⟩) rfl ho2_1 (Nat.le_of_ble_eq_true rfl) (fun w2 hln2 hw2 hne2 => ?_)
  have ho2_2 : w2[2]? = some (.inr (2, [.ref 3, .null, .null, .null, .null, .int (nI 0), .int (nI 0), .int (nI 0), .int (nI 0)])) := hw2
  have hl3_2 := (hne2 3 (by omega)).trans hc1
  have hF2 := hF1.st hln2 hne2 (by omega)
  refine J_aload_n (pc := 12) dX0_init_12 rfl rfl rfl ?_
  refine J_bipush (pc := 13) (v := nI 64) dX0_init_13 (by decide) ?_
  have qg23 := gl ho2_2
  have qg33 := gl hl3_2
  refine J_newW (pc := 15) (M := mX0_init) (N := 64) dX0_init_15 fa_int rfl (by decide) (by omega) (by omega) (fun q15 w3 ha3 hln3 hc3 hne3 => ?_)
  obtain rfl : q15 = 4 := by omega
  have ho2_3 := (hne3 2 (by omega)).trans ho2_2
  have hl3_3 := (hne3 3 (by omega)).trans hl3_2
  have hF3 := hF2.pu ha3 hln3 hne3
  refine J_putW (pc := 17) (k := 1) dX0_init_17 kC2 (by decide) ff_X0_15 (Or.inr ⟨rfl, rfl, rfl⟩) rfl ho2_3 (Nat.le_of_ble_eq_true rfl) (fun w4 hln4 hw4 hne4 => ?_)
  have ho2_4 : w4[2]? = some (.inr (2, [.ref 3, .ref 4, .null, .null, .null, .int (nI 0), .int (nI 0), .int (nI 0), .int (nI 0)])) := hw4
  have hl3_4 := (hne4 3 (by omega)).trans hl3_3
  have hl4_4 := (hne4 4 (by omega)).trans hc3
  have hF4 := hF3.st hln4 hne4 (by omega)
  refine J_aload_n (pc := 20) dX0_init_20 rfl rfl rfl ?_
  refine J_bipush (pc := 21) (v := nI 8) dX0_init_21 (by decide) ?_
  have qg25 := gl ho2_4
  have qg35 := gl hl3_4
  have qg45 := gl hl4_4
  refine J_newW (pc := 23) (M := mX0_init) (N := 8) dX0_init_23 fa_int rfl (by decide) (by omega) (by omega) (fun q23 w5 ha5 hln5 hc5 hne5 => ?_)
  obtain rfl : q23 = 5 := by omega
  have ho2_5 := (hne5 2 (by omega)).trans ho2_4
  have hl3_5 := (hne5 3 (by omega)).trans hl3_4
  have hl4_5 := (hne5 4 (by omega)).trans hl4_4
  have hF5 := hF4.pu ha5 hln5 hne5
  refine J_putW (pc := 25) (k := 2) dX0_init_25 kC2 (by decide) ff_X0_18 (Or.inr ⟨rfl, rfl, rfl⟩) rfl ho2_5 (Nat.le_of_ble_eq_true rfl) (fun w6 hln6 hw6 hne6 => ?_)
  have ho2_6 : w6[2]? = some (.inr (2, [.ref 3, .ref 4, .ref 5, .null, .null, .int (nI 0), .int (nI 0), .int (nI 0), .int (nI 0)])) := hw6
  have hl3_6 := (hne6 3 (by omega)).trans hl3_5
  have hl4_6 := (hne6 4 (by omega)).trans hl4_5
  have hl5_6 := (hne6 5 (by omega)).trans hc5
  have hF6 := hF5.st hln6 hne6 (by omega)
  refine J_aload_n (pc := 28) dX0_init_28 rfl rfl rfl ?_
  refine J_bipush (pc := 29) (v := nI 8) dX0_init_29 (by decide) ?_
  have qg27 := gl ho2_6
  have qg37 := gl hl3_6
  have qg47 := gl hl4_6
  have qg57 := gl hl5_6
  refine J_newW (pc := 31) (M := mX0_init) (N := 8) dX0_init_31 fa_int rfl (by decide) (by omega) (by omega) (fun q31 w7 ha7 hln7 hc7 hne7 => ?_)
  obtain rfl : q31 = 6 := by omega
  have ho2_7 := (hne7 2 (by omega)).trans ho2_6
  have hl3_7 := (hne7 3 (by omega)).trans hl3_6
  have hl4_7 := (hne7 4 (by omega)).trans hl4_6
  have hl5_7 := (hne7 5 (by omega)).trans hl5_6
  have hF7 := hF6.pu ha7 hln7 hne7
  refine J_putW (pc := 33) (k := 3) dX0_init_33 kC2 (by decide) ff_X0_21 (Or.inr ⟨rfl, rfl, rfl⟩) rfl ho2_7 (Nat.le_of_ble_eq_true rfl) (fun w8 hln8 hw8 hne8 => ?_)
  have ho2_8 : w8[2]? = some (.inr (2, [.ref 3, .ref 4, .ref 5, .ref 6, .null, .int (nI 0), .int (nI 0), .int (nI 0), .int (nI 0)])) := hw8
  have hl3_8 := (hne8 3 (by omega)).trans hl3_7
  have hl4_8 := (hne8 4 (by omega)).trans hl4_7
  have hl5_8 := (hne8 5 (by omega)).trans hl5_7
  have hl6_8 := (hne8 6 (by omega)).trans hc7
  have hF8 := hF7.st hln8 hne8 (by omega)
  refine J_aload_n (pc := 36) dX0_init_36 rfl rfl rfl ?_
  refine J_bipush (pc := 37) (v := nI 21) dX0_init_37 (by decide) ?_
  have qg29 := gl ho2_8
  have qg39 := gl hl3_8
  have qg49 := gl hl4_8
  have qg59 := gl hl5_8
  have qg69 := gl hl6_8
  refine J_newW (pc := 39) (M := mX0_init) (N := 21) dX0_init_39 fa_int rfl (by decide) (by omega) (by omega) (fun q39 w9 ha9 hln9 hc9 hne9 => ?_)
  obtain rfl : q39 = 7 := by omega
  have ho2_9 := (hne9 2 (by omega)).trans ho2_8
  have hl3_9 := (hne9 3 (by omega)).trans hl3_8
  have hl4_9 := (hne9 4 (by omega)).trans hl4_8
  have hl5_9 := (hne9 5 (by omega)).trans hl5_8
  have hl6_9 := (hne9 6 (by omega)).trans hl6_8
  have hF9 := hF8.pu ha9 hln9 hne9
  refine J_putW (pc := 41) (k := 4) dX0_init_41 kC2 (by decide) ff_X0_24 (Or.inr ⟨rfl, rfl, rfl⟩) rfl ho2_9 (Nat.le_of_ble_eq_true rfl) (fun w10 hln10 hw10 hne10 => ?_)
  have ho2_10 : w10[2]? = some (.inr (2, [.ref 3, .ref 4, .ref 5, .ref 6, .ref 7, .int (nI 0), .int (nI 0), .int (nI 0), .int (nI 0)])) := hw10
  have hl3_10 := (hne10 3 (by omega)).trans hl3_9
  have hl4_10 := (hne10 4 (by omega)).trans hl4_9
  have hl5_10 := (hne10 5 (by omega)).trans hl5_9
  have hl6_10 := (hne10 6 (by omega)).trans hl6_9
  have hl7_10 := (hne10 7 (by omega)).trans hc9
  have hF10 := hF9.st hln10 hne10 (by omega)
  refine J_aload_n (pc := 44) dX0_init_44 rfl rfl rfl ?_
  refine J_iconst (pc := 45) (v := nI 0) dX0_init_45 (by decide) ?_
  refine J_putW (pc := 46) (k := 5) dX0_init_46 kC2 (by decide) ff_X0_27 (Or.inl rfl) ⟨rfl, rfl⟩ ho2_10 (Nat.le_of_ble_eq_true rfl) (fun w11 hln11 hw11 hne11 => ?_)
  have ho2_11 : w11[2]? = some (.inr (2, [.ref 3, .ref 4, .ref 5, .ref 6, .ref 7, .int (nI 0), .int (nI 0), .int (nI 0), .int (nI 0)])) := hw11
  have hl3_11 := (hne11 3 (by omega)).trans hl3_10
  have hl4_11 := (hne11 4 (by omega)).trans hl4_10
  have hl5_11 := (hne11 5 (by omega)).trans hl5_10
  have hl6_11 := (hne11 6 (by omega)).trans hl6_10
  have hl7_11 := (hne11 7 (by omega)).trans hl7_10
  have hF11 := hF10.st hln11 hne11 (by omega)
  refine J_aload_n (pc := 49) dX0_init_49 rfl rfl rfl ?_
  refine J_iconst (pc := 50) (v := nI 0) dX0_init_50 (by decide) ?_
  refine J_putW (pc := 51) (k := 6) dX0_init_51 kC2 (by decide) ff_X0_31 (Or.inl rfl) ⟨rfl, rfl⟩ ho2_11 (Nat.le_of_ble_eq_true rfl) (fun w12 hln12 hw12 hne12 => ?_)
  have ho2_12 : w12[2]? = some (.inr (2, [.ref 3, .ref 4, .ref 5, .ref 6, .ref 7, .int (nI 0), .int (nI 0), .int (nI 0), .int (nI 0)])) := hw12
  have hl3_12 := (hne12 3 (by omega)).trans hl3_11
  have hl4_12 := (hne12 4 (by omega)).trans hl4_11
  have hl5_12 := (hne12 5 (by omega)).trans hl5_11
  have hl6_12 := (hne12 6 (by omega)).trans hl6_11
  have hl7_12 := (hne12 7 (by omega)).trans hl7_11
  have hF12 := hF11.st hln12 hne12 (by omega)
  refine J_aload_n (pc := 54) dX0_init_54 rfl rfl rfl ?_
  refine J_ldc (pc := 55) (v := nI 1754760) dX0_init_55 (by have := fk_X0_34; exact this) ?_
  refine J_putW (pc := 57) (k := 7) dX0_init_57 kC2 (by decide) ff_X0_35 (Or.inl rfl) ⟨rfl, rfl⟩ ho2_12 (Nat.le_of_ble_eq_true rfl) (fun w13 hln13 hw13 hne13 => ?_)
  have ho2_13 : w13[2]? = some (.inr (2, [.ref 3, .ref 4, .ref 5, .ref 6, .ref 7, .int (nI 0), .int (nI 0), .int (nI 1754760), .int (nI 0)])) := hw13
  have hl3_13 := (hne13 3 (by omega)).trans hl3_12
  have hl4_13 := (hne13 4 (by omega)).trans hl4_12
  have hl5_13 := (hne13 5 (by omega)).trans hl5_12
  have hl6_13 := (hne13 6 (by omega)).trans hl6_12
  have hl7_13 := (hne13 7 (by omega)).trans hl7_12
  have hF13 := hF12.st hln13 hne13 (by omega)
  refine J_aload_n (pc := 60) dX0_init_60 rfl rfl rfl ?_
  refine J_iconst (pc := 61) (v := nI 0) dX0_init_61 (by decide) ?_
  refine J_putW (pc := 62) (k := 8) dX0_init_62 kC2 (by decide) ff_X0_38 (Or.inl rfl) ⟨rfl, rfl⟩ ho2_13 (Nat.le_of_ble_eq_true rfl) (fun w14 hln14 hw14 hne14 => ?_)
  have ho2_14 : w14[2]? = some (.inr (2, [.ref 3, .ref 4, .ref 5, .ref 6, .ref 7, .int (nI 0), .int (nI 0), .int (nI 1754760), .int (nI 0)])) := hw14
  have hl3_14 := (hne14 3 (by omega)).trans hl3_13
  have hl4_14 := (hne14 4 (by omega)).trans hl4_13
  have hl5_14 := (hne14 5 (by omega)).trans hl5_13
  have hl6_14 := (hne14 6 (by omega)).trans hl6_13
  have hl7_14 := (hne14 7 (by omega)).trans hl7_13
  have hF14 := hF13.st hln14 hne14 (by omega)
  exact J_vret (pc := 65) dX0_init_65 rfl (⟨by omega, hF14, ho2_14, hl3_14, hl4_14, hl5_14, hl6_14, hl7_14⟩)
set_option maxRecDepth 100000 in
set_option maxHeartbeats 4000000 in
theorem c_X1_init_at9 {X : jX} (hs : X.1.stackTraces = false) {d : Nat} (hd : 2 ≤ d) {w : List jC} (hy0 : w.length = 10) (hy1 : w[9]? = some (.inr (3, [.null, .null, .int (nI 0)]))) {kc ks : Nat} (hkc : 2 ≤ kc) (hks : 5198 ≤ ks) : jMet X mX1_init d kc ks [.ref 9, .int (nI 5040)] w (pV (fun w' => w'.length = 12 ∧ FS 9 9 w w' ∧ w'[9]? = some (.inr (3, [.ref 10, .ref 11, .int (nI 0)])) ∧ w'[10]? = some (.inl (0, List.replicate 5040 0)) ∧ w'[11]? = some (.inl (0, List.replicate 158 0)))) := by
  refine jMet_of hs (by decide +kernel) (Nat.le_of_ble_eq_true rfl) (L := [some (.ref 9), some (.int (nI 5040)), none]) rfl ?_
  have hdm : 1 ≤ d - 1 := by omega
  have hdp : d - 1 + 1 ≤ d := by omega
  have hF : FS 9 9 w w := FS.rf
  have hgo := gl hy1
  refine J_aload_n (pc := 0) dX1_init_0 rfl rfl rfl ?_
  refine J_objInit (pc := 1) (M := mX1_init) dX1_init_1 fl_X1_1 fm_objectInit fo_c rfl (by omega) (Nat.le_of_ble_eq_true rfl) ?_
  refine J_aload_n (pc := 4) dX1_init_4 rfl rfl rfl ?_
  refine J_iconst (pc := 5) (v := nI 0) dX1_init_5 (by decide) ?_
  refine J_putW (pc := 6) (k := 2) dX1_init_6 kC3 (by decide) ff_X1_7 (Or.inl rfl) ⟨rfl, rfl⟩ hy1 (Nat.le_of_ble_eq_true rfl) (fun w1 hln1 hw1 hne1 => ?_)
  have ho9_1 : w1[9]? = some (.inr (3, [.null, .null, .int (nI 0)])) := hw1
  have hF1 := hF.st hln1 hne1 (by omega)
  refine J_iload_n (pc := 9) dX1_init_9 rfl rfl ?_
  refine J_iconst (pc := 10) (v := nI 0) dX1_init_10 (by decide) ?_
  refine J_callS0 (pc := 11) (M := mX1_init) (as := [.int (nI 5040), .int (nI 0)]) dX1_init_11 fw_J9_max_7cf53 fl_X1_13 fs_J9_max_7cf53 rfl (c_J9_max_7cf53 hs (d := d - 1) (Nat.le_trans (by decide) hdm) (w := w1) 5040 0 (by first | assumption | omega) (by first | assumption | omega) (kc := 0) (ks := 0)) hdp (st := []) (Nat.le_of_ble_eq_true rfl) rfl (kr_P fun v2 hv2 => ?_) kx_I
  obtain ⟨k2, rfl, hk2⟩ := hv2
  obtain rfl : k2 = 5040 := by omega
  refine J_istore_n (pc := 14) dX1_init_14 rfl (by decide) rfl ?_
  show J X mX1_init d kc ks 15 [some (.ref 9), some (.int (nI 5040)), some (.int (nI 5040))] [] w1 _
  refine J_aload_n (pc := 15) dX1_init_15 rfl rfl rfl ?_
  refine J_iload_n (pc := 16) dX1_init_16 rfl rfl ?_
  have qg93 := gl ho9_1
  refine J_newW (pc := 17) (M := mX1_init) (N := 5040) dX1_init_17 fa_int rfl (by decide) (by omega) (by omega) (fun q17 w3 ha3 hln3 hc3 hne3 => ?_)
  obtain rfl : q17 = 10 := by omega
  have ho9_3 := (hne3 9 (by omega)).trans ho9_1
  have hF3 := hF1.pu ha3 hln3 hne3
  refine J_putW (pc := 19) (k := 0) dX1_init_19 kC3 (by decide) ff_X1_19 (Or.inr ⟨rfl, rfl, rfl⟩) rfl ho9_3 (Nat.le_of_ble_eq_true rfl) (fun w4 hln4 hw4 hne4 => ?_)
  have ho9_4 : w4[9]? = some (.inr (3, [.ref 10, .null, .int (nI 0)])) := hw4
  have hl10_4 := (hne4 10 (by omega)).trans hc3
  have hF4 := hF3.st hln4 hne4 (by omega)
  refine J_aload_n (pc := 22) dX1_init_22 rfl rfl rfl ?_
  refine J_iload_n (pc := 23) dX1_init_23 rfl rfl ?_
  refine J_bipush (pc := 24) (v := nI 32) dX1_init_24 (by decide) ?_
  have hm5 := Nat.mod_lt 5040 (show 0 < 32 by omega)
  have hm6 := Nat.div_le_self 5040 32
  refine J_idivN (pc := 26) dX1_init_26 (by omega) (by omega) (by omega) ?_
  refine J_iconst (pc := 27) (v := nI 1) dX1_init_27 (by decide) ?_
  refine J_iaddN (pc := 28) dX1_init_28 ?_
  have qg97 := gl ho9_4
  have qg107 := gl hl10_4
  refine J_newW (pc := 29) (M := mX1_init) (N := (5040 / 32) + 1) dX1_init_29 fa_int rfl (by decide) (by omega) (by omega) (fun q29 w7 ha7 hln7 hc7 hne7 => ?_)
  obtain rfl : q29 = 11 := by omega
  have ho9_7 := (hne7 9 (by omega)).trans ho9_4
  have hl10_7 := (hne7 10 (by omega)).trans hl10_4
  have hF7 := hF4.pu ha7 hln7 hne7
  refine J_putW (pc := 31) (k := 1) dX1_init_31 kC3 (by decide) ff_X1_23 (Or.inr ⟨rfl, rfl, rfl⟩) rfl ho9_7 (Nat.le_of_ble_eq_true rfl) (fun w8 hln8 hw8 hne8 => ?_)
  have ho9_8 : w8[9]? = some (.inr (3, [.ref 10, .ref 11, .int (nI 0)])) := hw8
  have hl10_8 := (hne8 10 (by omega)).trans hl10_7
  have hl11_8 := (hne8 11 (by omega)).trans hc7
  have hF8 := hF7.st hln8 hne8 (by omega)
  exact J_vret (pc := 34) dX1_init_34 rfl (⟨by omega, hF8, ho9_8, hl10_8, hl11_8⟩)
set_option maxRecDepth 100000 in
set_option maxHeartbeats 4000000 in
theorem c_X1_init_at15 {X : jX} (hs : X.1.stackTraces = false) {d : Nat} (hd : 2 ≤ d) {w : List jC} (hy0 : w.length = 16) (hy1 : w[15]? = some (.inr (3, [.null, .null, .int (nI 0)]))) {kc ks : Nat} (hkc : 2 ≤ kc) (hks : 2256 ≤ ks) : jMet X mX1_init d kc ks [.ref 15, .int (nI 2187)] w (pV (fun w' => w'.length = 18 ∧ FS 15 15 w w' ∧ w'[15]? = some (.inr (3, [.ref 16, .ref 17, .int (nI 0)])) ∧ w'[16]? = some (.inl (0, List.replicate 2187 0)) ∧ w'[17]? = some (.inl (0, List.replicate 69 0)))) := by
  refine jMet_of hs (by decide +kernel) (Nat.le_of_ble_eq_true rfl) (L := [some (.ref 15), some (.int (nI 2187)), none]) rfl ?_
  have hdm : 1 ≤ d - 1 := by omega
  have hdp : d - 1 + 1 ≤ d := by omega
  have hF : FS 15 15 w w := FS.rf
  have hgo := gl hy1
  refine J_aload_n (pc := 0) dX1_init_0 rfl rfl rfl ?_
  refine J_objInit (pc := 1) (M := mX1_init) dX1_init_1 fl_X1_1 fm_objectInit fo_c rfl (by omega) (Nat.le_of_ble_eq_true rfl) ?_
  refine J_aload_n (pc := 4) dX1_init_4 rfl rfl rfl ?_
  refine J_iconst (pc := 5) (v := nI 0) dX1_init_5 (by decide) ?_
  refine J_putW (pc := 6) (k := 2) dX1_init_6 kC3 (by decide) ff_X1_7 (Or.inl rfl) ⟨rfl, rfl⟩ hy1 (Nat.le_of_ble_eq_true rfl) (fun w1 hln1 hw1 hne1 => ?_)
  have ho15_1 : w1[15]? = some (.inr (3, [.null, .null, .int (nI 0)])) := hw1
  have hF1 := hF.st hln1 hne1 (by omega)
  refine J_iload_n (pc := 9) dX1_init_9 rfl rfl ?_
  refine J_iconst (pc := 10) (v := nI 0) dX1_init_10 (by decide) ?_
  refine J_callS0 (pc := 11) (M := mX1_init) (as := [.int (nI 2187), .int (nI 0)]) dX1_init_11 fw_J9_max_7cf53 fl_X1_13 fs_J9_max_7cf53 rfl (c_J9_max_7cf53 hs (d := d - 1) (Nat.le_trans (by decide) hdm) (w := w1) 2187 0 (by first | assumption | omega) (by first | assumption | omega) (kc := 0) (ks := 0)) hdp (st := []) (Nat.le_of_ble_eq_true rfl) rfl (kr_P fun v2 hv2 => ?_) kx_I
  obtain ⟨k2, rfl, hk2⟩ := hv2
  obtain rfl : k2 = 2187 := by omega
  refine J_istore_n (pc := 14) dX1_init_14 rfl (by decide) rfl ?_
  show J X mX1_init d kc ks 15 [some (.ref 15), some (.int (nI 2187)), some (.int (nI 2187))] [] w1 _
  refine J_aload_n (pc := 15) dX1_init_15 rfl rfl rfl ?_
  refine J_iload_n (pc := 16) dX1_init_16 rfl rfl ?_
  have qg153 := gl ho15_1
  refine J_newW (pc := 17) (M := mX1_init) (N := 2187) dX1_init_17 fa_int rfl (by decide) (by omega) (by omega) (fun q17 w3 ha3 hln3 hc3 hne3 => ?_)
  obtain rfl : q17 = 16 := by omega
  have ho15_3 := (hne3 15 (by omega)).trans ho15_1
  have hF3 := hF1.pu ha3 hln3 hne3
  refine J_putW (pc := 19) (k := 0) dX1_init_19 kC3 (by decide) ff_X1_19 (Or.inr ⟨rfl, rfl, rfl⟩) rfl ho15_3 (Nat.le_of_ble_eq_true rfl) (fun w4 hln4 hw4 hne4 => ?_)
  have ho15_4 : w4[15]? = some (.inr (3, [.ref 16, .null, .int (nI 0)])) := hw4
  have hl16_4 := (hne4 16 (by omega)).trans hc3
  have hF4 := hF3.st hln4 hne4 (by omega)
  refine J_aload_n (pc := 22) dX1_init_22 rfl rfl rfl ?_
  refine J_iload_n (pc := 23) dX1_init_23 rfl rfl ?_
  refine J_bipush (pc := 24) (v := nI 32) dX1_init_24 (by decide) ?_
  have hm5 := Nat.mod_lt 2187 (show 0 < 32 by omega)
  have hm6 := Nat.div_le_self 2187 32
  refine J_idivN (pc := 26) dX1_init_26 (by omega) (by omega) (by omega) ?_
  refine J_iconst (pc := 27) (v := nI 1) dX1_init_27 (by decide) ?_
  refine J_iaddN (pc := 28) dX1_init_28 ?_
  have qg157 := gl ho15_4
  have qg167 := gl hl16_4
  refine J_newW (pc := 29) (M := mX1_init) (N := (2187 / 32) + 1) dX1_init_29 fa_int rfl (by decide) (by omega) (by omega) (fun q29 w7 ha7 hln7 hc7 hne7 => ?_)
  obtain rfl : q29 = 17 := by omega
  have ho15_7 := (hne7 15 (by omega)).trans ho15_4
  have hl16_7 := (hne7 16 (by omega)).trans hl16_4
  have hF7 := hF4.pu ha7 hln7 hne7
  refine J_putW (pc := 31) (k := 1) dX1_init_31 kC3 (by decide) ff_X1_23 (Or.inr ⟨rfl, rfl, rfl⟩) rfl ho15_7 (Nat.le_of_ble_eq_true rfl) (fun w8 hln8 hw8 hne8 => ?_)
  have ho15_8 : w8[15]? = some (.inr (3, [.ref 16, .ref 17, .int (nI 0)])) := hw8
  have hl16_8 := (hne8 16 (by omega)).trans hl16_7
  have hl17_8 := (hne8 17 (by omega)).trans hc7
  have hF8 := hF7.st hln8 hne8 (by omega)
  exact J_vret (pc := 34) dX1_init_34 rfl (⟨by omega, hF8, ho15_8, hl16_8, hl17_8⟩)
set_option maxRecDepth 100000 in
set_option maxHeartbeats 4000000 in
theorem c_X5_init {X : jX} (hs : X.1.stackTraces = false) {d : Nat} (hd : 3 ≤ d) {w : List jC} (hy0 : w.length = 9) (hy1 : w[8]? = some (.inr (6, [.null, .int (nI 0)]))) {kc ks : Nat} (hkc : 3 ≤ kc) (hks : 5201 ≤ ks) : jMet X mX5_init d kc ks [.ref 8] w (pV (fun w' => w'.length = 12 ∧ FS 8 8 w w' ∧ w'[8]? = some (.inr (6, [.ref 9, .int (nI 0)])) ∧ w'[9]? = some (.inr (3, [.ref 10, .ref 11, .int (nI 0)])) ∧ w'[10]? = some (.inl (0, List.replicate 5040 0)) ∧ w'[11]? = some (.inl (0, List.replicate 158 0)))) := by
  refine jMet_of hs (by decide +kernel) (Nat.le_of_ble_eq_true rfl) (L := [some (.ref 8)]) rfl ?_
  have hdm : 2 ≤ d - 1 := by omega
  have hdp : d - 1 + 1 ≤ d := by omega
  have hF : FS 8 8 w w := FS.rf
  have hgo := gl hy1
  refine J_aload_n (pc := 0) dX5_init_0 rfl rfl rfl ?_
  refine J_objInit (pc := 1) (M := mX5_init) dX5_init_1 fl_X5_3 fm_objectInit fo_c rfl (by omega) (Nat.le_of_ble_eq_true rfl) ?_
  refine J_aload_n (pc := 4) dX5_init_4 rfl rfl rfl ?_
  have qg81 := gl hy1
  refine J_newO (pc := 5) (M := mX5_init) (fs := [.null, .null, .int (nI 0)]) dX5_init_5 kC3 fc_X5_9 fi_X1 fz_X1 df_X1 (by omega) (by omega) (fun o5 w1 ha1 hln1 hc1 hne1 => ?_)
  obtain rfl : o5 = 9 := by omega
  have ho8_1 := (hne1 8 (by omega)).trans hy1
  have hF1 := hF.pu ha1 hln1 hne1
  refine J_dup (pc := 8) dX5_init_8 rfl ?_
  refine J_sipush (pc := 9) (v := nI 5040) dX5_init_9 (by decide) ?_
  refine J_callI (pc := 12) (M := mX5_init) (as := [.int (nI 5040)]) dX5_init_12 fw_X1_init fl_X5_11 fm_X1_init rfl rfl rfl (c_X1_init_at9 hs (d := d - 1) (by omega) (w := w1) (by first | assumption | omega) (by first | assumption | omega) (kc := 2) (ks := 5198) (Nat.le_refl _) (Nat.le_refl _)) (by omega) (by omega) (by omega) (st := [.ref 9, .ref 8]) (Nat.le_of_ble_eq_true rfl) rfl (kr_V fun w2 hw2 => ?_) kx_V
  obtain ⟨hln2, hFc2, hz9_2, hz10_2, hz11_2⟩ := hw2
  have ho8_2 := (hFc2.2 8 (by decide) (by decide) (gl ho8_1)).trans ho8_1
  have hF2 := hF1.tr2 hFc2 (by omega)
  refine J_putW (pc := 15) (k := 0) dX5_init_15 kC6 (by decide) ff_X5_14 (Or.inr ⟨rfl, rfl, rfl⟩) rfl ho8_2 (Nat.le_of_ble_eq_true rfl) (fun w3 hln3 hw3 hne3 => ?_)
  have ho8_3 : w3[8]? = some (.inr (6, [.ref 9, .int (nI 0)])) := hw3
  have ho9_3 := (hne3 9 (by omega)).trans hz9_2
  have hl10_3 := (hne3 10 (by omega)).trans hz10_2
  have hl11_3 := (hne3 11 (by omega)).trans hz11_2
  have hF3 := hF2.st hln3 hne3 (by omega)
  refine J_aload_n (pc := 18) dX5_init_18 rfl rfl rfl ?_
  refine J_iconst (pc := 19) (v := nI 0) dX5_init_19 (by decide) ?_
  refine J_putW (pc := 20) (k := 1) dX5_init_20 kC6 (by decide) ff_X5_20 (Or.inl rfl) ⟨rfl, rfl⟩ ho8_3 (Nat.le_of_ble_eq_true rfl) (fun w4 hln4 hw4 hne4 => ?_)
  have ho8_4 : w4[8]? = some (.inr (6, [.ref 9, .int (nI 0)])) := hw4
  have ho9_4 := (hne4 9 (by omega)).trans ho9_3
  have hl10_4 := (hne4 10 (by omega)).trans hl10_3
  have hl11_4 := (hne4 11 (by omega)).trans hl11_3
  have hF4 := hF3.st hln4 hne4 (by omega)
  exact J_vret (pc := 23) dX5_init_23 rfl (⟨by omega, hF4, ho8_4, ho9_4, hl10_4, hl11_4⟩)
set_option maxRecDepth 100000 in
set_option maxHeartbeats 4000000 in
theorem c_X4_init {X : jX} (hs : X.1.stackTraces = false) {d : Nat} (hd : 2 ≤ d) {w : List jC} (hy0 : w.length = 13) (hy1 : w[12]? = some (.inr (5, [.null, .int (nI 0)]))) {kc ks : Nat} (hkc : 1 ≤ kc) (hks : 8 ≤ ks) : jMet X mX4_init d kc ks [.ref 12] w (pV (fun w' => w'.length = 14 ∧ FS 12 12 w w' ∧ w'[12]? = some (.inr (5, [.ref 13, .int (nI 0)])) ∧ w'[13]? = some (.inl (0, List.replicate 8 0)))) := by
  refine jMet_of hs (by decide +kernel) (Nat.le_of_ble_eq_true rfl) (L := [some (.ref 12)]) rfl ?_
  have hdm : 1 ≤ d - 1 := by omega
  have hdp : d - 1 + 1 ≤ d := by omega
  have hF : FS 12 12 w w := FS.rf
  have hgo := gl hy1
  refine J_aload_n (pc := 0) dX4_init_0 rfl rfl rfl ?_
  refine J_objInit (pc := 1) (M := mX4_init) dX4_init_1 fl_X4_3 fm_objectInit fo_c rfl (by omega) (Nat.le_of_ble_eq_true rfl) ?_
  refine J_aload_n (pc := 4) dX4_init_4 rfl rfl rfl ?_
  refine J_bipush (pc := 5) (v := nI 8) dX4_init_5 (by decide) ?_
  have qg121 := gl hy1
  refine J_newW (pc := 7) (M := mX4_init) (N := 8) dX4_init_7 fa_int rfl (by decide) (by omega) (by omega) (fun q7 w1 ha1 hln1 hc1 hne1 => ?_)
  obtain rfl : q7 = 13 := by omega
  have ho12_1 := (hne1 12 (by omega)).trans hy1
  have hF1 := hF.pu ha1 hln1 hne1
  refine J_putW (pc := 9) (k := 0) dX4_init_9 kC5 (by decide) ff_X4_11 (Or.inr ⟨rfl, rfl, rfl⟩) rfl ho12_1 (Nat.le_of_ble_eq_true rfl) (fun w2 hln2 hw2 hne2 => ?_)
  have ho12_2 : w2[12]? = some (.inr (5, [.ref 13, .int (nI 0)])) := hw2
  have hl13_2 := (hne2 13 (by omega)).trans hc1
  have hF2 := hF1.st hln2 hne2 (by omega)
  refine J_aload_n (pc := 12) dX4_init_12 rfl rfl rfl ?_
  refine J_iconst (pc := 13) (v := nI 0) dX4_init_13 (by decide) ?_
  refine J_putW (pc := 14) (k := 1) dX4_init_14 kC5 (by decide) ff_X4_17 (Or.inl rfl) ⟨rfl, rfl⟩ ho12_2 (Nat.le_of_ble_eq_true rfl) (fun w3 hln3 hw3 hne3 => ?_)
  have ho12_3 : w3[12]? = some (.inr (5, [.ref 13, .int (nI 0)])) := hw3
  have hl13_3 := (hne3 13 (by omega)).trans hl13_2
  have hF3 := hF2.st hln3 hne3 (by omega)
  exact J_vret (pc := 17) dX4_init_17 rfl (⟨by omega, hF3, ho12_3, hl13_3⟩)
set_option maxRecDepth 100000 in
set_option maxHeartbeats 4000000 in
theorem c_X3_init {X : jX} (hs : X.1.stackTraces = false) {d : Nat} (hd : 3 ≤ d) {w : List jC} (hy0 : w.length = 15) (hy1 : w[14]? = some (.inr (4, [.null, .null, .int (nI 0), .int (nI 0)]))) {kc ks : Nat} (hkc : 4 ≤ kc) (hks : 2267 ≤ ks) : jMet X mX3_init d kc ks [.ref 14] w (pV (fun w' => w'.length = 19 ∧ FS 14 14 w w' ∧ w'[14]? = some (.inr (4, [.ref 15, .ref 18, .int (nI 1), .int (nI 0)])) ∧ w'[15]? = some (.inr (3, [.ref 16, .ref 17, .int (nI 0)])) ∧ w'[16]? = some (.inl (0, List.replicate 2187 0)) ∧ w'[17]? = some (.inl (0, List.replicate 69 0)) ∧ w'[18]? = some (.inl (0, List.replicate 8 0)))) := by
  refine jMet_of hs (by decide +kernel) (Nat.le_of_ble_eq_true rfl) (L := [some (.ref 14)]) rfl ?_
  have hdm : 2 ≤ d - 1 := by omega
  have hdp : d - 1 + 1 ≤ d := by omega
  have hF : FS 14 14 w w := FS.rf
  have hgo := gl hy1
  refine J_aload_n (pc := 0) dX3_init_0 rfl rfl rfl ?_
  refine J_objInit (pc := 1) (M := mX3_init) dX3_init_1 fl_X3_3 fm_objectInit fo_c rfl (by omega) (Nat.le_of_ble_eq_true rfl) ?_
  refine J_aload_n (pc := 4) dX3_init_4 rfl rfl rfl ?_
  have qg141 := gl hy1
  refine J_newO (pc := 5) (M := mX3_init) (fs := [.null, .null, .int (nI 0)]) dX3_init_5 kC3 fc_X3_9 fi_X1 fz_X1 df_X1 (by omega) (by omega) (fun o5 w1 ha1 hln1 hc1 hne1 => ?_)
  obtain rfl : o5 = 15 := by omega
  have ho14_1 := (hne1 14 (by omega)).trans hy1
  have hF1 := hF.pu ha1 hln1 hne1
  refine J_dup (pc := 8) dX3_init_8 rfl ?_
  refine J_sipush (pc := 9) (v := nI 2187) dX3_init_9 (by decide) ?_
  refine J_callI (pc := 12) (M := mX3_init) (as := [.int (nI 2187)]) dX3_init_12 fw_X1_init fl_X3_11 fm_X1_init rfl rfl rfl (c_X1_init_at15 hs (d := d - 1) (by omega) (w := w1) (by first | assumption | omega) (by first | assumption | omega) (kc := 2) (ks := 2256) (Nat.le_refl _) (Nat.le_refl _)) (by omega) (by omega) (by omega) (st := [.ref 15, .ref 14]) (Nat.le_of_ble_eq_true rfl) rfl (kr_V fun w2 hw2 => ?_) kx_V
  obtain ⟨hln2, hFc2, hz15_2, hz16_2, hz17_2⟩ := hw2
  have ho14_2 := (hFc2.2 14 (by decide) (by decide) (gl ho14_1)).trans ho14_1
  have hF2 := hF1.tr2 hFc2 (by omega)
  refine J_putW (pc := 15) (k := 0) dX3_init_15 kC4 (by decide) ff_X3_14 (Or.inr ⟨rfl, rfl, rfl⟩) rfl ho14_2 (Nat.le_of_ble_eq_true rfl) (fun w3 hln3 hw3 hne3 => ?_)
  have ho14_3 : w3[14]? = some (.inr (4, [.ref 15, .null, .int (nI 0), .int (nI 0)])) := hw3
  have ho15_3 := (hne3 15 (by omega)).trans hz15_2
  have hl16_3 := (hne3 16 (by omega)).trans hz16_2
  have hl17_3 := (hne3 17 (by omega)).trans hz17_2
  have hF3 := hF2.st hln3 hne3 (by omega)
  refine J_aload_n (pc := 18) dX3_init_18 rfl rfl rfl ?_
  refine J_bipush (pc := 19) (v := nI 8) dX3_init_19 (by decide) ?_
  have qg144 := gl ho14_3
  have qg154 := gl ho15_3
  have qg164 := gl hl16_3
  have qg174 := gl hl17_3
  refine J_newW (pc := 21) (M := mX3_init) (N := 8) dX3_init_21 fa_int rfl (by decide) (by omega) (by omega) (fun q21 w4 ha4 hln4 hc4 hne4 => ?_)
  obtain rfl : q21 = 18 := by omega
  have ho14_4 := (hne4 14 (by omega)).trans ho14_3
  have ho15_4 := (hne4 15 (by omega)).trans ho15_3
  have hl16_4 := (hne4 16 (by omega)).trans hl16_3
  have hl17_4 := (hne4 17 (by omega)).trans hl17_3
  have hF4 := hF3.pu ha4 hln4 hne4
  refine J_putW (pc := 23) (k := 1) dX3_init_23 kC4 (by decide) ff_X3_22 (Or.inr ⟨rfl, rfl, rfl⟩) rfl ho14_4 (Nat.le_of_ble_eq_true rfl) (fun w5 hln5 hw5 hne5 => ?_)
  have ho14_5 : w5[14]? = some (.inr (4, [.ref 15, .ref 18, .int (nI 0), .int (nI 0)])) := hw5
  have ho15_5 := (hne5 15 (by omega)).trans ho15_4
  have hl16_5 := (hne5 16 (by omega)).trans hl16_4
  have hl17_5 := (hne5 17 (by omega)).trans hl17_4
  have hl18_5 := (hne5 18 (by omega)).trans hc4
  have hF5 := hF4.st hln5 hne5 (by omega)
  refine J_aload_n (pc := 26) dX3_init_26 rfl rfl rfl ?_
  refine J_iconst (pc := 27) (v := nI 1) dX3_init_27 (by decide) ?_
  refine J_putW (pc := 28) (k := 2) dX3_init_28 kC4 (by decide) ff_X3_26 (Or.inl rfl) ⟨rfl, rfl⟩ ho14_5 (Nat.le_of_ble_eq_true rfl) (fun w6 hln6 hw6 hne6 => ?_)
  have ho14_6 : w6[14]? = some (.inr (4, [.ref 15, .ref 18, .int (nI 1), .int (nI 0)])) := hw6
  have ho15_6 := (hne6 15 (by omega)).trans ho15_5
  have hl16_6 := (hne6 16 (by omega)).trans hl16_5
  have hl17_6 := (hne6 17 (by omega)).trans hl17_5
  have hl18_6 := (hne6 18 (by omega)).trans hl18_5
  have hF6 := hF5.st hln6 hne6 (by omega)
  refine J_aload_n (pc := 31) dX3_init_31 rfl rfl rfl ?_
  refine J_iconst (pc := 32) (v := nI 0) dX3_init_32 (by decide) ?_
  refine J_putW (pc := 33) (k := 3) dX3_init_33 kC4 (by decide) ff_X3_30 (Or.inl rfl) ⟨rfl, rfl⟩ ho14_6 (Nat.le_of_ble_eq_true rfl) (fun w7 hln7 hw7 hne7 => ?_)
  have ho14_7 : w7[14]? = some (.inr (4, [.ref 15, .ref 18, .int (nI 1), .int (nI 0)])) := hw7
  have ho15_7 := (hne7 15 (by omega)).trans ho15_6
  have hl16_7 := (hne7 16 (by omega)).trans hl16_6
  have hl17_7 := (hne7 17 (by omega)).trans hl17_6
  have hl18_7 := (hne7 18 (by omega)).trans hl18_6
  have hF7 := hF6.st hln7 hne7 (by omega)
  exact J_vret (pc := 36) dX3_init_36 rfl (⟨by omega, hF7, ho14_7, ho15_7, hl16_7, hl17_7, hl18_7⟩)
set_option maxRecDepth 100000 in
set_option maxHeartbeats 4000000 in
theorem c_X6_init {X : jX} (hs : X.1.stackTraces = false) {d : Nat} (hd : 4 ≤ d) {w : List jC} (hy0 : w.length = 1) (hy1 : w[0]? = some (.inr (7, [.null, .null, .null, .null, .null, .int (nI 0), .int (nI 0), .int (nI 0), .int (nI 0)]))) {kc ks : Nat} (hkc : 18 ≤ kc) (hks : 7664 ≤ ks) : jMet X mX6_init d kc ks [.ref 0] w (pV (fun w' => w'.length = 19 ∧ SH (rX 4 (nI 0) (nI 0) (nI 0)) w' ∧ w'[1]? = some (aF 6 (fun _ => 1754760)))) := by
  refine jMet_of hs (by decide +kernel) (Nat.le_of_ble_eq_true rfl) (L := [some (.ref 0)]) rfl ?_
  have hdm : 3 ≤ d - 1 := by omega
  have hdp : d - 1 + 1 ≤ d := by omega
  have hF : FS 0 0 w w := FS.rf
  have hgo := gl hy1
  refine J_aload_n (pc := 0) dX6_init_0 rfl rfl rfl ?_
  refine J_objInit (pc := 1) (M := mX6_init) dX6_init_1 fl_X6_1 fm_objectInit fo_c rfl (by omega) (Nat.le_of_ble_eq_true rfl) ?_
  refine J_aload_n (pc := 4) dX6_init_4 rfl rfl rfl ?_
  refine J_bipush (pc := 5) (v := nI 6) dX6_init_5 (by decide) ?_
  have qg01 := gl hy1
  refine J_newW (pc := 7) (M := mX6_init) (N := 6) dX6_init_7 fa_int rfl (by decide) (by omega) (by omega) (fun q7 w1 ha1 hln1 hc1 hne1 => ?_)
  obtain rfl : q7 = 1 := by omega
  have ho0_1 := (hne1 0 (by omega)).trans hy1
  have hF1 := hF.pu ha1 hln1 hne1
  refine J_putW (pc := 9) (k := 0) dX6_init_9 kC7 (by decide) ff_X6_9 (Or.inr ⟨rfl, rfl, rfl⟩) rfl ho0_1 (Nat.le_of_ble_eq_true rfl) (fun w2 hln2 hw2 hne2 => ?_)
  have ho0_2 : w2[0]? = some (.inr (7, [.ref 1, .null, .null, .null, .null, .int (nI 0), .int (nI 0), .int (nI 0), .int (nI 0)])) := hw2
  have hl1_2 := (hne2 1 (by omega)).trans hc1
  have hF2 := hF1.st hln2 hne2 (by omega)
  refine J_aload_n (pc := 12) dX6_init_12 rfl rfl rfl ?_
  have qg03 := gl ho0_2
  have qg13 := gl hl1_2
  refine J_newO (pc := 13) (M := mX6_init) (fs := [.null, .null, .null, .null, .null, .int (nI 0), .int (nI 0), .int (nI 0), .int (nI 0)]) dX6_init_13 kC2 fc_X6_13 fi_X0 fz_X0 df_X0 (by omega) (by omega) (fun o13 w3 ha3 hln3 hc3 hne3 => ?_)
  obtain rfl : o13 = 2 := by omega
  have ho0_3 := (hne3 0 (by omega)).trans ho0_2
  have hl1_3 := (hne3 1 (by omega)).trans hl1_2
  have hF3 := hF2.pu ha3 hln3 hne3
  refine J_dup (pc := 16) dX6_init_16 rfl ?_
  refine J_callIN (pc := 17) (M := mX6_init) (as := []) dX6_init_17 fw_X0_init fl_X6_15 fm_X0_init rfl rfl rfl (c_X0_init hs (d := d - 1) (by omega) (w := w3) (by first | assumption | omega) (by first | assumption | omega) (kc := 5) (ks := 165) (Nat.le_refl _) (Nat.le_refl _)) (by omega) (by omega) (by omega) (st := [.ref 2, .ref 0]) (Nat.le_of_ble_eq_true rfl) rfl (kr_V fun w4 hw4 => ?_) kx_V
  obtain ⟨hln4, hFc4, hz2_4, hz3_4, hz4_4, hz5_4, hz6_4, hz7_4⟩ := hw4
  have ho0_4 := (hFc4.2 0 (by decide) (by decide) (gl ho0_3)).trans ho0_3
  have hl1_4 := (hFc4.2 1 (by decide) (by decide) (gl hl1_3)).trans hl1_3
  have hF4 := hF3.tr2 hFc4 (by omega)
  refine J_putW (pc := 20) (k := 1) dX6_init_20 kC7 (by decide) ff_X6_16 (Or.inr ⟨rfl, rfl, rfl⟩) rfl ho0_4 (Nat.le_of_ble_eq_true rfl) (fun w5 hln5 hw5 hne5 => ?_)
  have ho0_5 : w5[0]? = some (.inr (7, [.ref 1, .ref 2, .null, .null, .null, .int (nI 0), .int (nI 0), .int (nI 0), .int (nI 0)])) := hw5
  have ho2_5 := (hne5 2 (by omega)).trans hz2_4
  have hl1_5 := (hne5 1 (by omega)).trans hl1_4
  have hl3_5 := (hne5 3 (by omega)).trans hz3_4
  have hl4_5 := (hne5 4 (by omega)).trans hz4_4
  have hl5_5 := (hne5 5 (by omega)).trans hz5_4
  have hl6_5 := (hne5 6 (by omega)).trans hz6_4
  have hl7_5 := (hne5 7 (by omega)).trans hz7_4
  have hF5 := hF4.st hln5 hne5 (by omega)
  refine J_aload_n (pc := 23) dX6_init_23 rfl rfl rfl ?_
  have qg06 := gl ho0_5
  have qg26 := gl ho2_5
  have qg16 := gl hl1_5
  have qg36 := gl hl3_5
  have qg46 := gl hl4_5
  have qg56 := gl hl5_5
  have qg66 := gl hl6_5
  have qg76 := gl hl7_5
  refine J_newO (pc := 24) (M := mX6_init) (fs := [.null, .int (nI 0)]) dX6_init_24 kC6 fc_X6_20 fi_X5 fz_X5 df_X5 (by omega) (by omega) (fun o24 w6 ha6 hln6 hc6 hne6 => ?_)
  obtain rfl : o24 = 8 := by omega
  have ho0_6 := (hne6 0 (by omega)).trans ho0_5
  have ho2_6 := (hne6 2 (by omega)).trans ho2_5
  have hl1_6 := (hne6 1 (by omega)).trans hl1_5
  have hl3_6 := (hne6 3 (by omega)).trans hl3_5
  have hl4_6 := (hne6 4 (by omega)).trans hl4_5
  have hl5_6 := (hne6 5 (by omega)).trans hl5_5
  have hl6_6 := (hne6 6 (by omega)).trans hl6_5
  have hl7_6 := (hne6 7 (by omega)).trans hl7_5
  have hF6 := hF5.pu ha6 hln6 hne6
  refine J_dup (pc := 27) dX6_init_27 rfl ?_
  refine J_callIN (pc := 28) (M := mX6_init) (as := []) dX6_init_28 fw_X5_init fl_X6_22 fm_X5_init rfl rfl rfl (c_X5_init hs (d := d - 1) (by omega) (w := w6) (by first | assumption | omega) (by first | assumption | omega) (kc := 3) (ks := 5201) (Nat.le_refl _) (Nat.le_refl _)) (by omega) (by omega) (by omega) (st := [.ref 8, .ref 0]) (Nat.le_of_ble_eq_true rfl) rfl (kr_V fun w7 hw7 => ?_) kx_V
  obtain ⟨hln7, hFc7, hz8_7, hz9_7, hz10_7, hz11_7⟩ := hw7
  have ho0_7 := (hFc7.2 0 (by decide) (by decide) (gl ho0_6)).trans ho0_6
  have ho2_7 := (hFc7.2 2 (by decide) (by decide) (gl ho2_6)).trans ho2_6
  have hl1_7 := (hFc7.2 1 (by decide) (by decide) (gl hl1_6)).trans hl1_6
  have hl3_7 := (hFc7.2 3 (by decide) (by decide) (gl hl3_6)).trans hl3_6
  have hl4_7 := (hFc7.2 4 (by decide) (by decide) (gl hl4_6)).trans hl4_6
  have hl5_7 := (hFc7.2 5 (by decide) (by decide) (gl hl5_6)).trans hl5_6
  have hl6_7 := (hFc7.2 6 (by decide) (by decide) (gl hl6_6)).trans hl6_6
  have hl7_7 := (hFc7.2 7 (by decide) (by decide) (gl hl7_6)).trans hl7_6
  have hF7 := hF6.tr2 hFc7 (by omega)
  refine J_putW (pc := 31) (k := 2) dX6_init_31 kC7 (by decide) ff_X6_23 (Or.inr ⟨rfl, rfl, rfl⟩) rfl ho0_7 (Nat.le_of_ble_eq_true rfl) (fun w8 hln8 hw8 hne8 => ?_)
  have ho0_8 : w8[0]? = some (.inr (7, [.ref 1, .ref 2, .ref 8, .null, .null, .int (nI 0), .int (nI 0), .int (nI 0), .int (nI 0)])) := hw8
  have ho2_8 := (hne8 2 (by omega)).trans ho2_7
  have ho8_8 := (hne8 8 (by omega)).trans hz8_7
  have ho9_8 := (hne8 9 (by omega)).trans hz9_7
  have hl1_8 := (hne8 1 (by omega)).trans hl1_7
  have hl3_8 := (hne8 3 (by omega)).trans hl3_7
  have hl4_8 := (hne8 4 (by omega)).trans hl4_7
  have hl5_8 := (hne8 5 (by omega)).trans hl5_7
  have hl6_8 := (hne8 6 (by omega)).trans hl6_7
  have hl7_8 := (hne8 7 (by omega)).trans hl7_7
  have hl10_8 := (hne8 10 (by omega)).trans hz10_7
  have hl11_8 := (hne8 11 (by omega)).trans hz11_7
  have hF8 := hF7.st hln8 hne8 (by omega)
  refine J_aload_n (pc := 34) dX6_init_34 rfl rfl rfl ?_
  have qg09 := gl ho0_8
  have qg29 := gl ho2_8
  have qg89 := gl ho8_8
  have qg99 := gl ho9_8
  have qg19 := gl hl1_8
  have qg39 := gl hl3_8
  have qg49 := gl hl4_8
  have qg59 := gl hl5_8
  have qg69 := gl hl6_8
  have qg79 := gl hl7_8
  have qg109 := gl hl10_8
  have qg119 := gl hl11_8
  refine J_newO (pc := 35) (M := mX6_init) (fs := [.null, .int (nI 0)]) dX6_init_35 kC5 fc_X6_27 fi_X4 fz_X4 df_X4 (by omega) (by omega) (fun o35 w9 ha9 hln9 hc9 hne9 => ?_)
  obtain rfl : o35 = 12 := by omega
  have ho0_9 := (hne9 0 (by omega)).trans ho0_8
  have ho2_9 := (hne9 2 (by omega)).trans ho2_8
  have ho8_9 := (hne9 8 (by omega)).trans ho8_8
  have ho9_9 := (hne9 9 (by omega)).trans ho9_8
  have hl1_9 := (hne9 1 (by omega)).trans hl1_8
  have hl3_9 := (hne9 3 (by omega)).trans hl3_8
  have hl4_9 := (hne9 4 (by omega)).trans hl4_8
  have hl5_9 := (hne9 5 (by omega)).trans hl5_8
  have hl6_9 := (hne9 6 (by omega)).trans hl6_8
  have hl7_9 := (hne9 7 (by omega)).trans hl7_8
  have hl10_9 := (hne9 10 (by omega)).trans hl10_8
  have hl11_9 := (hne9 11 (by omega)).trans hl11_8
  have hF9 := hF8.pu ha9 hln9 hne9
  refine J_dup (pc := 38) dX6_init_38 rfl ?_
  refine J_callIN (pc := 39) (M := mX6_init) (as := []) dX6_init_39 fw_X4_init fl_X6_29 fm_X4_init rfl rfl rfl (c_X4_init hs (d := d - 1) (by omega) (w := w9) (by first | assumption | omega) (by first | assumption | omega) (kc := 1) (ks := 8) (Nat.le_refl _) (Nat.le_refl _)) (by omega) (by omega) (by omega) (st := [.ref 12, .ref 0]) (Nat.le_of_ble_eq_true rfl) rfl (kr_V fun w10 hw10 => ?_) kx_V
  obtain ⟨hln10, hFc10, hz12_10, hz13_10⟩ := hw10
  have ho0_10 := (hFc10.2 0 (by decide) (by decide) (gl ho0_9)).trans ho0_9
  have ho2_10 := (hFc10.2 2 (by decide) (by decide) (gl ho2_9)).trans ho2_9
  have ho8_10 := (hFc10.2 8 (by decide) (by decide) (gl ho8_9)).trans ho8_9
  have ho9_10 := (hFc10.2 9 (by decide) (by decide) (gl ho9_9)).trans ho9_9
  have hl1_10 := (hFc10.2 1 (by decide) (by decide) (gl hl1_9)).trans hl1_9
  have hl3_10 := (hFc10.2 3 (by decide) (by decide) (gl hl3_9)).trans hl3_9
  have hl4_10 := (hFc10.2 4 (by decide) (by decide) (gl hl4_9)).trans hl4_9
  have hl5_10 := (hFc10.2 5 (by decide) (by decide) (gl hl5_9)).trans hl5_9
  have hl6_10 := (hFc10.2 6 (by decide) (by decide) (gl hl6_9)).trans hl6_9
  have hl7_10 := (hFc10.2 7 (by decide) (by decide) (gl hl7_9)).trans hl7_9
  have hl10_10 := (hFc10.2 10 (by decide) (by decide) (gl hl10_9)).trans hl10_9
  have hl11_10 := (hFc10.2 11 (by decide) (by decide) (gl hl11_9)).trans hl11_9
  have hF10 := hF9.tr2 hFc10 (by omega)
  refine J_putW (pc := 42) (k := 3) dX6_init_42 kC7 (by decide) ff_X6_30 (Or.inr ⟨rfl, rfl, rfl⟩) rfl ho0_10 (Nat.le_of_ble_eq_true rfl) (fun w11 hln11 hw11 hne11 => ?_)
  have ho0_11 : w11[0]? = some (.inr (7, [.ref 1, .ref 2, .ref 8, .ref 12, .null, .int (nI 0), .int (nI 0), .int (nI 0), .int (nI 0)])) := hw11
  have ho2_11 := (hne11 2 (by omega)).trans ho2_10
  have ho8_11 := (hne11 8 (by omega)).trans ho8_10
  have ho9_11 := (hne11 9 (by omega)).trans ho9_10
  have ho12_11 := (hne11 12 (by omega)).trans hz12_10
  have hl1_11 := (hne11 1 (by omega)).trans hl1_10
  have hl3_11 := (hne11 3 (by omega)).trans hl3_10
  have hl4_11 := (hne11 4 (by omega)).trans hl4_10
  have hl5_11 := (hne11 5 (by omega)).trans hl5_10
  have hl6_11 := (hne11 6 (by omega)).trans hl6_10
  have hl7_11 := (hne11 7 (by omega)).trans hl7_10
  have hl10_11 := (hne11 10 (by omega)).trans hl10_10
  have hl11_11 := (hne11 11 (by omega)).trans hl11_10
  have hl13_11 := (hne11 13 (by omega)).trans hz13_10
  have hF11 := hF10.st hln11 hne11 (by omega)
  refine J_aload_n (pc := 45) dX6_init_45 rfl rfl rfl ?_
  have qg012 := gl ho0_11
  have qg212 := gl ho2_11
  have qg812 := gl ho8_11
  have qg912 := gl ho9_11
  have qg1212 := gl ho12_11
  have qg112 := gl hl1_11
  have qg312 := gl hl3_11
  have qg412 := gl hl4_11
  have qg512 := gl hl5_11
  have qg612 := gl hl6_11
  have qg712 := gl hl7_11
  have qg1012 := gl hl10_11
  have qg1112 := gl hl11_11
  have qg1312 := gl hl13_11
  refine J_newO (pc := 46) (M := mX6_init) (fs := [.null, .null, .int (nI 0), .int (nI 0)]) dX6_init_46 kC4 fc_X6_34 fi_X3 fz_X3 df_X3 (by omega) (by omega) (fun o46 w12 ha12 hln12 hc12 hne12 => ?_)
  obtain rfl : o46 = 14 := by omega
  have ho0_12 := (hne12 0 (by omega)).trans ho0_11
  have ho2_12 := (hne12 2 (by omega)).trans ho2_11
  have ho8_12 := (hne12 8 (by omega)).trans ho8_11
  have ho9_12 := (hne12 9 (by omega)).trans ho9_11
  have ho12_12 := (hne12 12 (by omega)).trans ho12_11
  have hl1_12 := (hne12 1 (by omega)).trans hl1_11
  have hl3_12 := (hne12 3 (by omega)).trans hl3_11
  have hl4_12 := (hne12 4 (by omega)).trans hl4_11
  have hl5_12 := (hne12 5 (by omega)).trans hl5_11
  have hl6_12 := (hne12 6 (by omega)).trans hl6_11
  have hl7_12 := (hne12 7 (by omega)).trans hl7_11
  have hl10_12 := (hne12 10 (by omega)).trans hl10_11
  have hl11_12 := (hne12 11 (by omega)).trans hl11_11
  have hl13_12 := (hne12 13 (by omega)).trans hl13_11
  have hF12 := hF11.pu ha12 hln12 hne12
  refine J_dup (pc := 49) dX6_init_49 rfl ?_
  refine J_callIN (pc := 50) (M := mX6_init) (as := []) dX6_init_50 fw_X3_init fl_X6_36 fm_X3_init rfl rfl rfl (c_X3_init hs (d := d - 1) (by omega) (w := w12) (by first | assumption | omega) (by first | assumption | omega) (kc := 4) (ks := 2267) (Nat.le_refl _) (Nat.le_refl _)) (by omega) (by omega) (by omega) (st := [.ref 14, .ref 0]) (Nat.le_of_ble_eq_true rfl) rfl (kr_V fun w13 hw13 => ?_) kx_V
  obtain ⟨hln13, hFc13, hz14_13, hz15_13, hz16_13, hz17_13, hz18_13⟩ := hw13
  have ho0_13 := (hFc13.2 0 (by decide) (by decide) (gl ho0_12)).trans ho0_12
  have ho2_13 := (hFc13.2 2 (by decide) (by decide) (gl ho2_12)).trans ho2_12
  have ho8_13 := (hFc13.2 8 (by decide) (by decide) (gl ho8_12)).trans ho8_12
  have ho9_13 := (hFc13.2 9 (by decide) (by decide) (gl ho9_12)).trans ho9_12
  have ho12_13 := (hFc13.2 12 (by decide) (by decide) (gl ho12_12)).trans ho12_12
  have hl1_13 := (hFc13.2 1 (by decide) (by decide) (gl hl1_12)).trans hl1_12
  have hl3_13 := (hFc13.2 3 (by decide) (by decide) (gl hl3_12)).trans hl3_12
  have hl4_13 := (hFc13.2 4 (by decide) (by decide) (gl hl4_12)).trans hl4_12
  have hl5_13 := (hFc13.2 5 (by decide) (by decide) (gl hl5_12)).trans hl5_12
  have hl6_13 := (hFc13.2 6 (by decide) (by decide) (gl hl6_12)).trans hl6_12
  have hl7_13 := (hFc13.2 7 (by decide) (by decide) (gl hl7_12)).trans hl7_12
  have hl10_13 := (hFc13.2 10 (by decide) (by decide) (gl hl10_12)).trans hl10_12
  have hl11_13 := (hFc13.2 11 (by decide) (by decide) (gl hl11_12)).trans hl11_12
  have hl13_13 := (hFc13.2 13 (by decide) (by decide) (gl hl13_12)).trans hl13_12
  have hF13 := hF12.tr2 hFc13 (by omega)
  refine J_putW (pc := 53) (k := 4) dX6_init_53 kC7 (by decide) ff_X6_37 (Or.inr ⟨rfl, rfl, rfl⟩) rfl ho0_13 (Nat.le_of_ble_eq_true rfl) (fun w14 hln14 hw14 hne14 => ?_)
  have ho0_14 : w14[0]? = some (.inr (7, [.ref 1, .ref 2, .ref 8, .ref 12, .ref 14, .int (nI 0), .int (nI 0), .int (nI 0), .int (nI 0)])) := hw14
  have ho2_14 := (hne14 2 (by omega)).trans ho2_13
  have ho8_14 := (hne14 8 (by omega)).trans ho8_13
  have ho9_14 := (hne14 9 (by omega)).trans ho9_13
  have ho12_14 := (hne14 12 (by omega)).trans ho12_13
  have ho14_14 := (hne14 14 (by omega)).trans hz14_13
  have ho15_14 := (hne14 15 (by omega)).trans hz15_13
  have hl1_14 := (hne14 1 (by omega)).trans hl1_13
  have hl3_14 := (hne14 3 (by omega)).trans hl3_13
  have hl4_14 := (hne14 4 (by omega)).trans hl4_13
  have hl5_14 := (hne14 5 (by omega)).trans hl5_13
  have hl6_14 := (hne14 6 (by omega)).trans hl6_13
  have hl7_14 := (hne14 7 (by omega)).trans hl7_13
  have hl10_14 := (hne14 10 (by omega)).trans hl10_13
  have hl11_14 := (hne14 11 (by omega)).trans hl11_13
  have hl13_14 := (hne14 13 (by omega)).trans hl13_13
  have hl16_14 := (hne14 16 (by omega)).trans hz16_13
  have hl17_14 := (hne14 17 (by omega)).trans hz17_13
  have hl18_14 := (hne14 18 (by omega)).trans hz18_13
  have hF14 := hF13.st hln14 hne14 (by omega)
  refine J_aload_n (pc := 56) dX6_init_56 rfl rfl rfl ?_
  refine J_iconst (pc := 57) (v := nI 4) dX6_init_57 (by decide) ?_
  refine J_putW (pc := 58) (k := 5) dX6_init_58 kC7 (by decide) ff_X6_41 (Or.inl rfl) ⟨rfl, rfl⟩ ho0_14 (Nat.le_of_ble_eq_true rfl) (fun w15 hln15 hw15 hne15 => ?_)
  have ho0_15 : w15[0]? = some (.inr (7, [.ref 1, .ref 2, .ref 8, .ref 12, .ref 14, .int (nI 4), .int (nI 0), .int (nI 0), .int (nI 0)])) := hw15
  have ho2_15 := (hne15 2 (by omega)).trans ho2_14
  have ho8_15 := (hne15 8 (by omega)).trans ho8_14
  have ho9_15 := (hne15 9 (by omega)).trans ho9_14
  have ho12_15 := (hne15 12 (by omega)).trans ho12_14
  have ho14_15 := (hne15 14 (by omega)).trans ho14_14
  have ho15_15 := (hne15 15 (by omega)).trans ho15_14
  have hl1_15 := (hne15 1 (by omega)).trans hl1_14
  have hl3_15 := (hne15 3 (by omega)).trans hl3_14
  have hl4_15 := (hne15 4 (by omega)).trans hl4_14
  have hl5_15 := (hne15 5 (by omega)).trans hl5_14
  have hl6_15 := (hne15 6 (by omega)).trans hl6_14
  have hl7_15 := (hne15 7 (by omega)).trans hl7_14
  have hl10_15 := (hne15 10 (by omega)).trans hl10_14
  have hl11_15 := (hne15 11 (by omega)).trans hl11_14
  have hl13_15 := (hne15 13 (by omega)).trans hl13_14
  have hl16_15 := (hne15 16 (by omega)).trans hl16_14
  have hl17_15 := (hne15 17 (by omega)).trans hl17_14
  have hl18_15 := (hne15 18 (by omega)).trans hl18_14
  have hF15 := hF14.st hln15 hne15 (by omega)
  refine J_aload_n (pc := 61) dX6_init_61 rfl rfl rfl ?_
  refine J_iconst (pc := 62) (v := nI 0) dX6_init_62 (by decide) ?_
  refine J_putW (pc := 63) (k := 6) dX6_init_63 kC7 (by decide) ff_X6_45 (Or.inl rfl) ⟨rfl, rfl⟩ ho0_15 (Nat.le_of_ble_eq_true rfl) (fun w16 hln16 hw16 hne16 => ?_)
  have ho0_16 : w16[0]? = some (.inr (7, [.ref 1, .ref 2, .ref 8, .ref 12, .ref 14, .int (nI 4), .int (nI 0), .int (nI 0), .int (nI 0)])) := hw16
  have ho2_16 := (hne16 2 (by omega)).trans ho2_15
  have ho8_16 := (hne16 8 (by omega)).trans ho8_15
  have ho9_16 := (hne16 9 (by omega)).trans ho9_15
  have ho12_16 := (hne16 12 (by omega)).trans ho12_15
  have ho14_16 := (hne16 14 (by omega)).trans ho14_15
  have ho15_16 := (hne16 15 (by omega)).trans ho15_15
  have hl1_16 := (hne16 1 (by omega)).trans hl1_15
  have hl3_16 := (hne16 3 (by omega)).trans hl3_15
  have hl4_16 := (hne16 4 (by omega)).trans hl4_15
  have hl5_16 := (hne16 5 (by omega)).trans hl5_15
  have hl6_16 := (hne16 6 (by omega)).trans hl6_15
  have hl7_16 := (hne16 7 (by omega)).trans hl7_15
  have hl10_16 := (hne16 10 (by omega)).trans hl10_15
  have hl11_16 := (hne16 11 (by omega)).trans hl11_15
  have hl13_16 := (hne16 13 (by omega)).trans hl13_15
  have hl16_16 := (hne16 16 (by omega)).trans hl16_15
  have hl17_16 := (hne16 17 (by omega)).trans hl17_15
  have hl18_16 := (hne16 18 (by omega)).trans hl18_15
  have hF16 := hF15.st hln16 hne16 (by omega)
  refine J_aload_n (pc := 66) dX6_init_66 rfl rfl rfl ?_
  refine J_iconst (pc := 67) (v := nI 0) dX6_init_67 (by decide) ?_
  refine J_putW (pc := 68) (k := 7) dX6_init_68 kC7 (by decide) ff_X6_48 (Or.inl rfl) ⟨rfl, rfl⟩ ho0_16 (Nat.le_of_ble_eq_true rfl) (fun w17 hln17 hw17 hne17 => ?_)
  have ho0_17 : w17[0]? = some (.inr (7, [.ref 1, .ref 2, .ref 8, .ref 12, .ref 14, .int (nI 4), .int (nI 0), .int (nI 0), .int (nI 0)])) := hw17
  have ho2_17 := (hne17 2 (by omega)).trans ho2_16
  have ho8_17 := (hne17 8 (by omega)).trans ho8_16
  have ho9_17 := (hne17 9 (by omega)).trans ho9_16
  have ho12_17 := (hne17 12 (by omega)).trans ho12_16
  have ho14_17 := (hne17 14 (by omega)).trans ho14_16
  have ho15_17 := (hne17 15 (by omega)).trans ho15_16
  have hl1_17 := (hne17 1 (by omega)).trans hl1_16
  have hl3_17 := (hne17 3 (by omega)).trans hl3_16
  have hl4_17 := (hne17 4 (by omega)).trans hl4_16
  have hl5_17 := (hne17 5 (by omega)).trans hl5_16
  have hl6_17 := (hne17 6 (by omega)).trans hl6_16
  have hl7_17 := (hne17 7 (by omega)).trans hl7_16
  have hl10_17 := (hne17 10 (by omega)).trans hl10_16
  have hl11_17 := (hne17 11 (by omega)).trans hl11_16
  have hl13_17 := (hne17 13 (by omega)).trans hl13_16
  have hl16_17 := (hne17 16 (by omega)).trans hl16_16
  have hl17_17 := (hne17 17 (by omega)).trans hl17_16
  have hl18_17 := (hne17 18 (by omega)).trans hl18_16
  have hF17 := hF16.st hln17 hne17 (by omega)
  refine J_aload_n (pc := 71) dX6_init_71 rfl rfl rfl ?_
  refine J_iconst (pc := 72) (v := nI 0) dX6_init_72 (by decide) ?_
  refine J_putW (pc := 73) (k := 8) dX6_init_73 kC7 (by decide) ff_X6_51 (Or.inl rfl) ⟨rfl, rfl⟩ ho0_17 (Nat.le_of_ble_eq_true rfl) (fun w18 hln18 hw18 hne18 => ?_)
  have ho0_18 : w18[0]? = some (.inr (7, [.ref 1, .ref 2, .ref 8, .ref 12, .ref 14, .int (nI 4), .int (nI 0), .int (nI 0), .int (nI 0)])) := hw18
  have ho2_18 := (hne18 2 (by omega)).trans ho2_17
  have ho8_18 := (hne18 8 (by omega)).trans ho8_17
  have ho9_18 := (hne18 9 (by omega)).trans ho9_17
  have ho12_18 := (hne18 12 (by omega)).trans ho12_17
  have ho14_18 := (hne18 14 (by omega)).trans ho14_17
  have ho15_18 := (hne18 15 (by omega)).trans ho15_17
  have hl1_18 := (hne18 1 (by omega)).trans hl1_17
  have hl3_18 := (hne18 3 (by omega)).trans hl3_17
  have hl4_18 := (hne18 4 (by omega)).trans hl4_17
  have hl5_18 := (hne18 5 (by omega)).trans hl5_17
  have hl6_18 := (hne18 6 (by omega)).trans hl6_17
  have hl7_18 := (hne18 7 (by omega)).trans hl7_17
  have hl10_18 := (hne18 10 (by omega)).trans hl10_17
  have hl11_18 := (hne18 11 (by omega)).trans hl11_17
  have hl13_18 := (hne18 13 (by omega)).trans hl13_17
  have hl16_18 := (hne18 16 (by omega)).trans hl16_17
  have hl17_18 := (hne18 17 (by omega)).trans hl17_17
  have hl18_18 := (hne18 18 (by omega)).trans hl18_17
  have hF18 := hF17.st hln18 hne18 (by omega)
  refine J_aload_n (pc := 76) dX6_init_76 rfl rfl rfl ?_
  refine J_get (pc := 77) (k := 0) dX6_init_77 kC7 (by decide) ff_X6_9 ho0_18 rfl ?_
  refine J_ldc (pc := 80) (v := nI 1754760) dX6_init_80 (by have := fk_X6_56; exact this) ?_
  have hSH : SH (rX 4 (nI 0) (nI 0) (nI 0)) w18 := by
    intro i p hp
    match i, hp with
    | 0, hp => obtain rfl := Option.some.inj hp; exact ⟨_, ho0_18, rfl⟩
    | 1, hp => obtain rfl := Option.some.inj hp; exact ⟨_, hl1_18, _, rfl, List.length_replicate⟩
    | 2, hp => obtain rfl := Option.some.inj hp; exact ⟨_, ho2_18, 0, 0, nI 0, nI 1754760, rfl, by decide, by decide⟩
    | 3, hp => obtain rfl := Option.some.inj hp; exact ⟨_, hl3_18, _, rfl, List.length_replicate⟩
    | 4, hp => obtain rfl := Option.some.inj hp; exact ⟨_, hl4_18, _, rfl, List.length_replicate⟩
    | 5, hp => obtain rfl := Option.some.inj hp; exact ⟨_, hl5_18, _, rfl, List.length_replicate⟩
    | 6, hp => obtain rfl := Option.some.inj hp; exact ⟨_, hl6_18, _, rfl, List.length_replicate⟩
    | 7, hp => obtain rfl := Option.some.inj hp; exact ⟨_, hl7_18, _, rfl, List.length_replicate⟩
    | 8, hp => obtain rfl := Option.some.inj hp; exact ⟨_, ho8_18, 0, rfl, by decide⟩
    | 9, hp => obtain rfl := Option.some.inj hp; exact ⟨_, ho9_18, 0, rfl, by decide⟩
    | 10, hp => obtain rfl := Option.some.inj hp; exact ⟨_, hl10_18, _, rfl, List.length_replicate⟩
    | 11, hp => obtain rfl := Option.some.inj hp; exact ⟨_, hl11_18, _, rfl, List.length_replicate⟩
    | 12, hp => obtain rfl := Option.some.inj hp; exact ⟨_, ho12_18, 0, rfl, by decide⟩
    | 13, hp => obtain rfl := Option.some.inj hp; exact ⟨_, hl13_18, _, rfl, List.length_replicate⟩
    | 14, hp => obtain rfl := Option.some.inj hp; exact ⟨_, ho14_18, 1, 0, rfl, by decide, by decide, by decide⟩
    | 15, hp => obtain rfl := Option.some.inj hp; exact ⟨_, ho15_18, 0, rfl, by decide⟩
    | 16, hp => obtain rfl := Option.some.inj hp; exact ⟨_, hl16_18, _, rfl, List.length_replicate⟩
    | 17, hp => obtain rfl := Option.some.inj hp; exact ⟨_, hl17_18, _, rfl, List.length_replicate⟩
    | 18, hp => obtain rfl := Option.some.inj hp; exact ⟨_, hl18_18, _, rfl, List.length_replicate⟩
    | i + 19, hp =>
      have h19 : i + 19 < 19 := (List.getElem?_eq_some_iff.mp hp).1
      omega
  refine J_callS0 (pc := 82) (M := mX6_init) (as := [.ref 1, .int (nI 1754760)]) dX6_init_82 fw_J7_fill_53178 fl_X6_57 fs_J7_fill_53178 rfl (c_J7_fill_53178_ath hs (d := d - 1) (w := w18) (f := fun _ => 0) (by rw [← aF_0]; exact hl1_18) 1754760 (kc := 0) (ks := 0)) (by omega) (st := []) (Nat.le_of_ble_eq_true rfl) rfl (kr_V fun w99 hw99 => ?_) kx_V
  obtain ⟨hz1, hz2, hz4⟩ := hw99
  refine J_vret (pc := 85) dX6_init_85 rfl ⟨by omega, fun i p hp => ?_, hz2⟩
  by_cases e : i = 1
  · subst e; obtain rfl := Option.some.inj hp; exact ⟨_, hz2, _, rfl, by rw [List.length_map, List.length_range]⟩
  · obtain ⟨c9, hc9, hp9⟩ := hSH i p hp
    exact ⟨c9, (hz4 i e).trans hc9, hp9⟩
set_option maxRecDepth 100000 in
set_option maxHeartbeats 4000000 in
theorem c_X8_init {X : jX} (hs : X.1.stackTraces = false) {d : Nat} (hd : 3 ≤ d) {w : List jC} (hy0 : w.length = 20) (hy1 : w[19]? = some (.inr (9, [.int (nI 0), .null, .null, .null, .null, .int (nI 0), .int (nI 0), .int (nI 0), .int (nI 0), .int (nI 0), .int (nI 0)]))) {kc ks : Nat} (hkc : 4 ≤ kc) (hks : 214 ≤ ks) : jMet X mX8_init d kc ks [.ref 19] w (pV (fun w' => ∃ mv' : Nat → Nat, RM 4 mv' (fun _ => 0) (fun _ => 0) 23 (List.replicate 158 0) (-1) (nI 0) (nI 0) (nI 0) (nI 0) (nI 0) w' ∧ (∀ i, mv' i < 7) ∧ PM 4 mv' ∧ (∀ k p, k < 6 → p < 4 → mv' (k * 7 + p) = p) ∧ ∀ i, i < 19 → w'[i]? = w[i]?)) := by
  refine jMet_of hs (by decide +kernel) (Nat.le_of_ble_eq_true rfl) (L := [some (.ref 19)]) rfl ?_
  have hdm : 2 ≤ d - 1 := by omega
  have hdp : d - 1 + 1 ≤ d := by omega
  have hF : FS 19 19 w w := FS.rf
  have hgo := gl hy1
  refine J_aload_n (pc := 0) dX8_init_0 rfl rfl rfl ?_
  refine J_objInit (pc := 1) (M := mX8_init) dX8_init_1 fl_X8_1 fm_objectInit fo_c rfl (by omega) (Nat.le_of_ble_eq_true rfl) ?_
  refine J_aload_n (pc := 4) dX8_init_4 rfl rfl rfl ?_
  refine J_iconst (pc := 5) (v := nI 4) dX8_init_5 (by decide) ?_
  refine J_putW (pc := 6) (k := 0) dX8_init_6 kC9 (by decide) ff_X8_7 (Or.inl rfl) ⟨rfl, rfl⟩ hy1 (Nat.le_of_ble_eq_true rfl) (fun w1 hln1 hw1 hne1 => ?_)
  have ho19_1 : w1[19]? = some (.inr (9, [.int (nI 4), .null, .null, .null, .null, .int (nI 0), .int (nI 0), .int (nI 0), .int (nI 0), .int (nI 0), .int (nI 0)])) := hw1
  have hF1 := hF.st hln1 hne1 (by omega)
  refine J_aload_n (pc := 9) dX8_init_9 rfl rfl rfl ?_
  refine J_bipush (pc := 10) (v := nI 42) dX8_init_10 (by decide) ?_
  have qg192 := gl ho19_1
  refine J_newW (pc := 12) (M := mX8_init) (N := 42) dX8_init_12 fa_int rfl (by decide) (by omega) (by omega) (fun q12 w2 ha2 hln2 hc2 hne2 => ?_)
  obtain rfl : q12 = 20 := by omega
  have ho19_2 := (hne2 19 (by omega)).trans ho19_1
  have hF2 := hF1.pu ha2 hln2 hne2
  refine J_putW (pc := 14) (k := 1) dX8_init_14 kC9 (by decide) ff_X8_13 (Or.inr ⟨rfl, rfl, rfl⟩) rfl ho19_2 (Nat.le_of_ble_eq_true rfl) (fun w3 hln3 hw3 hne3 => ?_)
  have ho19_3 : w3[19]? = some (.inr (9, [.int (nI 4), .ref 20, .null, .null, .null, .int (nI 0), .int (nI 0), .int (nI 0), .int (nI 0), .int (nI 0), .int (nI 0)])) := hw3
  have hl20_3 := (hne3 20 (by omega)).trans hc2
  have hF3 := hF2.st hln3 hne3 (by omega)
  refine J_aload_n (pc := 17) dX8_init_17 rfl rfl rfl ?_
  refine J_bipush (pc := 18) (v := nI 7) dX8_init_18 (by decide) ?_
  have qg194 := gl ho19_3
  have qg204 := gl hl20_3
  refine J_newW (pc := 20) (M := mX8_init) (N := 7) dX8_init_20 fa_int rfl (by decide) (by omega) (by omega) (fun q20 w4 ha4 hln4 hc4 hne4 => ?_)
  obtain rfl : q20 = 21 := by omega
  have ho19_4 := (hne4 19 (by omega)).trans ho19_3
  have hl20_4 := (hne4 20 (by omega)).trans hl20_3
  have hF4 := hF3.pu ha4 hln4 hne4
  refine J_putW (pc := 22) (k := 2) dX8_init_22 kC9 (by decide) ff_X8_17 (Or.inr ⟨rfl, rfl, rfl⟩) rfl ho19_4 (Nat.le_of_ble_eq_true rfl) (fun w5 hln5 hw5 hne5 => ?_)
  have ho19_5 : w5[19]? = some (.inr (9, [.int (nI 4), .ref 20, .ref 21, .null, .null, .int (nI 0), .int (nI 0), .int (nI 0), .int (nI 0), .int (nI 0), .int (nI 0)])) := hw5
  have hl20_5 := (hne5 20 (by omega)).trans hl20_4
  have hl21_5 := (hne5 21 (by omega)).trans hc4
  have hF5 := hF4.st hln5 hne5 (by omega)
  refine J_aload_n (pc := 25) dX8_init_25 rfl rfl rfl ?_
  refine J_bipush (pc := 26) (v := nI 7) dX8_init_26 (by decide) ?_
  have qg196 := gl ho19_5
  have qg206 := gl hl20_5
  have qg216 := gl hl21_5
  refine J_newW (pc := 28) (M := mX8_init) (N := 7) dX8_init_28 fa_int rfl (by decide) (by omega) (by omega) (fun q28 w6 ha6 hln6 hc6 hne6 => ?_)
  obtain rfl : q28 = 22 := by omega
  have ho19_6 := (hne6 19 (by omega)).trans ho19_5
  have hl20_6 := (hne6 20 (by omega)).trans hl20_5
  have hl21_6 := (hne6 21 (by omega)).trans hl21_5
  have hF6 := hF5.pu ha6 hln6 hne6
  refine J_putW (pc := 30) (k := 3) dX8_init_30 kC9 (by decide) ff_X8_20 (Or.inr ⟨rfl, rfl, rfl⟩) rfl ho19_6 (Nat.le_of_ble_eq_true rfl) (fun w7 hln7 hw7 hne7 => ?_)
  have ho19_7 : w7[19]? = some (.inr (9, [.int (nI 4), .ref 20, .ref 21, .ref 22, .null, .int (nI 0), .int (nI 0), .int (nI 0), .int (nI 0), .int (nI 0), .int (nI 0)])) := hw7
  have hl20_7 := (hne7 20 (by omega)).trans hl20_6
  have hl21_7 := (hne7 21 (by omega)).trans hl21_6
  have hl22_7 := (hne7 22 (by omega)).trans hc6
  have hF7 := hF6.st hln7 hne7 (by omega)
  refine J_aload_n (pc := 33) dX8_init_33 rfl rfl rfl ?_
  refine J_sipush (pc := 34) (v := nI 158) dX8_init_34 (by decide) ?_
  have qg198 := gl ho19_7
  have qg208 := gl hl20_7
  have qg218 := gl hl21_7
  have qg228 := gl hl22_7
  refine J_newW (pc := 37) (M := mX8_init) (N := 158) dX8_init_37 fa_int rfl (by decide) (by omega) (by omega) (fun q37 w8 ha8 hln8 hc8 hne8 => ?_)
  obtain rfl : q37 = 23 := by omega
  have ho19_8 := (hne8 19 (by omega)).trans ho19_7
  have hl20_8 := (hne8 20 (by omega)).trans hl20_7
  have hl21_8 := (hne8 21 (by omega)).trans hl21_7
  have hl22_8 := (hne8 22 (by omega)).trans hl22_7
  have hF8 := hF7.pu ha8 hln8 hne8
  refine J_putW (pc := 39) (k := 4) dX8_init_39 kC9 (by decide) ff_X8_23 (Or.inl rfl) rfl ho19_8 (Nat.le_of_ble_eq_true rfl) (fun w9 hln9 hw9 hne9 => ?_)
  have ho19_9 : w9[19]? = some (.inr (9, [.int (nI 4), .ref 20, .ref 21, .ref 22, .ref 23, .int (nI 0), .int (nI 0), .int (nI 0), .int (nI 0), .int (nI 0), .int (nI 0)])) := hw9
  have hl20_9 := (hne9 20 (by omega)).trans hl20_8
  have hl21_9 := (hne9 21 (by omega)).trans hl21_8
  have hl22_9 := (hne9 22 (by omega)).trans hl22_8
  have hl23_9 := (hne9 23 (by omega)).trans hc8
  have hF9 := hF8.st hln9 hne9 (by omega)
  refine J_aload_n (pc := 42) dX8_init_42 rfl rfl rfl ?_
  refine J_iconst (pc := 43) (v := (-1)) dX8_init_43 (by decide) ?_
  refine J_putW (pc := 44) (k := 5) dX8_init_44 kC9 (by decide) ff_X8_26 (Or.inl rfl) ⟨rfl, rfl⟩ ho19_9 (Nat.le_of_ble_eq_true rfl) (fun w10 hln10 hw10 hne10 => ?_)
  have ho19_10 : w10[19]? = some (.inr (9, [.int (nI 4), .ref 20, .ref 21, .ref 22, .ref 23, .int (-1), .int (nI 0), .int (nI 0), .int (nI 0), .int (nI 0), .int (nI 0)])) := hw10
  have hl20_10 := (hne10 20 (by omega)).trans hl20_9
  have hl21_10 := (hne10 21 (by omega)).trans hl21_9
  have hl22_10 := (hne10 22 (by omega)).trans hl22_9
  have hl23_10 := (hne10 23 (by omega)).trans hl23_9
  have hF10 := hF9.st hln10 hne10 (by omega)
  refine J_aload_n (pc := 47) dX8_init_47 rfl rfl rfl ?_
  have hz20 := hl20_10
  rw [aF_0] at hz20
  have hz21 := hl21_10
  rw [aF_0] at hz21
  have hz22 := hl22_10
  rw [aF_0] at hz22
  refine J_callV0 (pc := 48) (M := mX8_init) (as := []) dX8_init_48 fw_X8_still fl_X8_29 fm_X8_still fe_X8_still ho19_10 (by decide) rfl rfl rfl (c_X8_still hs (d := d - 1) (by omega) (w := w10) (n := 4) (mv := fun _ => 0) (rw := fun _ => 0) (nx := fun _ => 0) (b := 23) (bt := List.replicate 158 0) (kn := (-1)) (en := nI 0) (dn := nI 0) (rf := nI 0) (kk := nI 0) (th := nI 0) ⟨ho19_10, hz20, hz21, hz22, hl23_10, List.length_replicate, by decide⟩ (by decide) (by decide) (fun _ => by decide) (fun _ => by decide) (fun _ => by decide) (kc := 0) (ks := 0)) (by omega) (st := []) (Nat.le_of_ble_eq_true rfl) rfl (kr_V fun w99 hw99 => ?_) kx_V
  obtain ⟨mv9, hR9, hF9, hg9, hp9⟩ := hw99
  exact J_vret (pc := 51) dX8_init_51 rfl ⟨mv9, hR9, hg9, PM_id (by decide) hp9, hp9, fun i hi => (hF9.2.2 i (Or.inl hi) (by omega) (by omega)).trans (hF10.2 i (by omega) (by omega) (by omega))⟩
set_option maxRecDepth 100000 in
set_option maxHeartbeats 4000000 in
theorem c_X7_init {X : jX} (hs : X.1.stackTraces = false) {d : Nat} (hd : 1 ≤ d) {w : List jC} (a : Nat) {kc ks : Nat} : jMet X mX7_init d kc ks [.ref a] w (pV (fun w' => w' = w)) := by
  refine jMet_of hs (by decide +kernel) (Nat.le_of_ble_eq_true rfl) (L := [some (.ref a)]) rfl ?_
  have hdm : 0 ≤ d - 1 := by omega
  have hdp : d - 1 + 1 ≤ d := by omega
  refine J_aload_n (pc := 0) dX7_init_0 rfl rfl rfl ?_
  refine J_objInit (pc := 1) (M := mX7_init) dX7_init_1 fl_X7_1 fm_objectInit fo_c rfl (by omega) (Nat.le_of_ble_eq_true rfl) ?_
  exact J_vret (pc := 4) dX7_init_4 rfl (rfl)
end
section
/-! contracts of the reference: rspec4 -/
set_option maxRecDepth 100000 in
set_option maxHeartbeats 4000000 in
theorem c_X8_evenNow {X : jX} (hs : X.1.stackTraces = false) {d : Nat} (hd : 4 ≤ d) {n : Nat} {mv rw nx : Nat → Nat} {b : Nat} {bt : List Int32} {kn en dn rf kk th : Int32} {w : List jC} (hR : RM n mv rw nx b bt kn en dn rf kk th w) (hn1 : 2 ≤ n) (hn2 : n ≤ 7) (gm : ∀ i, mv i < 7) (gr : ∀ i, rw i < 7) (gx : ∀ i, nx i < 7) (s : Nat) (hy0 : s < 64) (hy1 : PM n mv) (hy2 : KX n mv kn bt) {kc ks : Nat} (hkc : 13 ≤ kc) (hks : 2054 ≤ ks) : jMet X mX8_evenNow d kc ks [.ref 19, .int (nI s)] w (pI (fun _ => True) (fun w' => ∃ (rw' : Nat → Nat), ∃ (nx' : Nat → Nat), ∃ (b' : Nat), ∃ (bt' : List Int32), ∃ (kn' : Int32), ∃ (en' : Int32), RM n mv rw' nx' b' bt' kn' en' dn rf kk th w' ∧ FR b b' w w' ∧ (∀ i, rw' i < 7) ∧ (∀ i, nx' i < 7) ∧ kn' = nI s ∧ BX n mv s bt')) := by
  refine jMet_of hs (by decide +kernel) (Nat.le_of_ble_eq_true rfl) (L := [some (.ref 19), some (.int (nI s)), none, none]) rfl ?_
  have hdm : 3 ≤ d - 1 := by omega
  have hdp : d - 1 + 1 ≤ d := by omega
  have hfc := fc_7 hn2
  have hfp := fc_pos n
  obtain ⟨h19, h20, h21, h22, hbb, hbl, hb3⟩ := hR
  have hF : FR b b w w := FR.rf
  refine J_aload_n (pc := 0) dX8_evenNow_0 rfl rfl rfl ?_
  refine J_iload_n (pc := 1) dX8_evenNow_1 rfl rfl ?_
  refine J_callV (pc := 2) (M := mX8_evenNow) (as := [.int (nI s)]) dX8_evenNow_2 fw_X8_group fl_X8_99 fm_X8_group fe_X8_group h19 (by decide) rfl rfl rfl (c_X8_group_ate hs (d := d - 1) (Nat.le_trans (by decide) hdm) (w := w) (n := n) (mv := mv) (rw := rw) (nx := nx) (b := b) (bt := bt) (kn := kn) (en := en) (dn := dn) (rf := rf) (kk := kk) (th := th) ⟨h19, h20, h21, h22, hbb, hbl, hb3⟩ hn1 hn2 gm gr gx s (by first | assumption | omega) (by first | assumption | omega) (by first | assumption | omega) (kc := 13) (ks := 2054) (Nat.le_refl _) (Nat.le_refl _)) hdp (by omega) (by omega) (st := []) (Nat.le_of_ble_eq_true rfl) rfl (kr_V fun w1 hw1 => ?_) kx_V
  obtain ⟨rw1, nx1, b1, bt1, kn1, en1, hR1, hFc1, hgrw1, hgnx1, hp1_0, hp1_1⟩ := hw1
  obtain ⟨h19_1, h20_1, h21_1, h22_1, hbb_1, hbl_1, hb3_1⟩ := hR1
  have qd1 := hFc1.2.1
  have hF1 := hF.tr hFc1
  refine J_iconst (pc := 5) (v := nI 0) dX8_evenNow_5 (by decide) ?_
  refine J_istore_n (pc := 6) dX8_evenNow_6 rfl (by decide) rfl ?_
  show J X mX8_evenNow d (kc - 13) (ks - 2054) 7 [some (.ref 19), some (.int (nI s)), some (.int (nI 0)), none] [] w1 _
  refine J_aload_n (pc := 7) dX8_evenNow_7 rfl rfl rfl ?_
  refine J_iconst (pc := 8) (v := nI 0) dX8_evenNow_8 (by decide) ?_
  refine J_callV0 (pc := 9) (M := mX8_evenNow) (as := [.int (nI 0)]) dX8_evenNow_9 fw_X8_from fl_X8_137 fm_X8_from fe_X8_from h19_1 (by decide) rfl rfl rfl (c_X8_from hs (d := d - 1) (Nat.le_trans (by decide) hdm) (w := w1) (n := n) (mv := mv) (rw := rw1) (nx := nx1) (b := b1) (bt := bt1) (kn := kn1) (en := en1) (dn := dn) (rf := rf) (kk := kk) (th := th) ⟨h19_1, h20_1, h21_1, h22_1, hbb_1, hbl_1, hb3_1⟩ hn1 hn2 gm hgrw1 hgnx1 0 (by first | assumption | omega) (kc := 0) (ks := 0)) hdp (st := []) (Nat.le_of_ble_eq_true rfl) rfl (kr_P fun v2 hv2 => ?_) kx_I
  rcases hv2 with ⟨rfl, hk2_0⟩ | ⟨q2, rfl, hk2_0, hk2_1, hk2_2, hk2_3⟩
  · refine J_istore_n (pc := 12) dX8_evenNow_12 rfl (by decide) rfl ?_
    show J X mX8_evenNow d (kc - 13) (ks - 2054) 13 [some (.ref 19), some (.int (nI s)), some (.int (nI 0)), some (.int (-1))] [] w1 _
    have lp13_3 : ∀ (fuel : Nat) (w4 : List jC) (rw_13 : Nat → Nat) (z2 : Int32) (c3 : Nat), (RM n mv rw_13 nx1 b1 bt1 kn1 en1 dn rf kk th w4) → (FR b b1 w w4) → (∀ i, rw_13 i < 7) → (c3 ≤ fc n) → (mu (fc n) c3 < fuel) → J X mX8_evenNow d (kc - 13) (ks - 2054) 13 [some (.ref 19), some (.int (nI s)), some (.int z2), some (.int (nI c3 + Int32.ofInt (-1)))] [] w4 (pI (fun _ => True) (fun w' => ∃ (rw' : Nat → Nat), ∃ (nx' : Nat → Nat), ∃ (b' : Nat), ∃ (bt' : List Int32), ∃ (kn' : Int32), ∃ (en' : Int32), RM n mv rw' nx' b' bt' kn' en' dn rf kk th w' ∧ FR b b' w w' ∧ (∀ i, rw' i < 7) ∧ (∀ i, nx' i < 7) ∧ kn' = nI s ∧ BX n mv s bt')) := by
      intro fuellp13_3
      induction fuellp13_3 with
      | zero => intros; omega
      | succ fuellp13_3 ihlp13_3 =>
        intro w4 rw_13 z2 c3 hR5 hF6 gr7 hv13_0 hf8
        obtain ⟨h19_9, h20_9, h21_9, h22_9, hb_9, hbl_9, hb3_9⟩ := hR5
        refine J_iload_n (pc := 13) dX8_evenNow_13 rfl rfl ?_
        refine J_if_ltM (pc := 14) (tgt := 58) dX8_evenNow_14 (by decide) (by omega) (fun ht10 => ?_) (fun hf11 => ?_)
        · refine J_iload_n (pc := 58) dX8_evenNow_58 rfl rfl ?_
          exact J_iret (pc := 59) dX8_evenNow_59 rfl ⟨trivial, ⟨rw_13, nx1, b1, bt1, kn1, en1, ⟨h19_9, h20_9, h21_9, h22_9, hb_9, hbl_9, hb3_9⟩, hF6, gr7, hgnx1, (by first | assumption | omega), (by first | assumption | omega)⟩⟩
        · rw [nI_m1 hf11]
          refine J_aload_n (pc := 17) dX8_evenNow_17 rfl rfl rfl ?_
          refine J_iload_n (pc := 18) dX8_evenNow_18 rfl rfl ?_
          refine J_aload_n (pc := 19) dX8_evenNow_19 rfl rfl rfl ?_
          refine J_get (pc := 20) (k := 2) dX8_evenNow_20 kC9 (by decide) ff_X8_17 h19_9 rfl ?_
          refine J_callV0 (pc := 23) (M := mX8_evenNow) (as := [.int (nI (c3 - 1)), .ref 21]) dX8_evenNow_23 fw_X8_rowOf fl_X8_78 fm_X8_rowOf fe_X8_rowOf h19_9 (by decide) rfl rfl rfl (c_X8_rowOf hs (d := d - 1) (Nat.le_trans (by decide) hdm) (w := w4) (n := n) (mv := mv) (rw := rw_13) (nx := nx1) (b := b1) (bt := bt1) (kn := kn1) (en := en1) (dn := dn) (rf := rf) (kk := kk) (th := th) ⟨h19_9, h20_9, h21_9, h22_9, hb_9, hbl_9, hb3_9⟩ hn1 hn2 gm gr7 hgnx1 (c3 - 1) (by first | assumption | omega) (kc := 0) (ks := 0)) hdp (st := []) (Nat.le_of_ble_eq_true rfl) rfl (kr_V fun w12 hw12 => ?_) kx_V
          obtain ⟨rw12, hR12, hFc12, hgrw12, hp12_0⟩ := hw12
          obtain ⟨h19_12, h20_12, h21_12, h22_12, hbb_12, hbl_12, hb3_12⟩ := hR12
          have hF12 := hF6.tr hFc12
          refine J_iload_n (pc := 26) dX8_evenNow_26 rfl rfl ?_
          refine J_aload_n (pc := 27) dX8_evenNow_27 rfl rfl rfl ?_
          refine J_aload_n (pc := 28) dX8_evenNow_28 rfl rfl rfl ?_
          refine J_get (pc := 29) (k := 2) dX8_evenNow_29 kC9 (by decide) ff_X8_17 h19_12 rfl ?_
          refine J_iconst (pc := 32) (v := nI 0) dX8_evenNow_32 (by decide) ?_
          refine J_callV0 (pc := 33) (M := mX8_evenNow) (as := [.ref 21, .int (nI 0)]) dX8_evenNow_33 fw_X8_signOf fl_X8_115 fm_X8_signOf fe_X8_signOf h19_12 (by decide) rfl rfl rfl (c_X8_signOf_at21 hs (d := d - 1) (Nat.le_trans (by decide) hdm) (w := w12) (n := n) (mv := mv) (rw := rw12) (nx := nx1) (b := b1) (bt := bt1) (kn := kn1) (en := en1) (dn := dn) (rf := rf) (kk := kk) (th := th) ⟨h19_12, h20_12, h21_12, h22_12, hbb_12, hbl_12, hb3_12⟩ hn1 hn2 gm hgrw12 hgnx1 0 (by first | assumption | omega) (kc := 0) (ks := 0)) hdp (st := [.int z2]) (Nat.le_of_ble_eq_true rfl) rfl (kr_P fun v13 hv13 => ?_) kx_I
          refine J_iconst (pc := 36) (v := nI 1) dX8_evenNow_36 (by decide) ?_
          refine J_icmp_ne (pc := 37) (tgt := 44) dX8_evenNow_37 (by decide) (fun ht14 => ?_) (fun hf15 => ?_)
          · refine J_iconst (pc := 44) (v := nI 0) dX8_evenNow_44 (by decide) ?_
            refine J_iadd (pc := 45) dX8_evenNow_45 (J_absI fun x16 => ?_)
            refine J_istore_n (pc := 46) dX8_evenNow_46 rfl (by decide) rfl ?_
            show J X mX8_evenNow d (kc - 13) (ks - 2054) 47 [some (.ref 19), some (.int (nI s)), some (.int x16), some (.int (nI (c3 - 1)))] [] w12 _
            refine J_aload_n (pc := 47) dX8_evenNow_47 rfl rfl rfl ?_
            refine J_iload_n (pc := 48) dX8_evenNow_48 rfl rfl ?_
            refine J_iconst (pc := 49) (v := nI 1) dX8_evenNow_49 (by decide) ?_
            refine J_iaddN (pc := 50) dX8_evenNow_50 ?_
            refine J_callV0 (pc := 51) (M := mX8_evenNow) (as := [.int (nI ((c3 - 1) + 1))]) dX8_evenNow_51 fw_X8_from fl_X8_137 fm_X8_from fe_X8_from h19_12 (by decide) rfl rfl rfl (c_X8_from hs (d := d - 1) (Nat.le_trans (by decide) hdm) (w := w12) (n := n) (mv := mv) (rw := rw12) (nx := nx1) (b := b1) (bt := bt1) (kn := kn1) (en := en1) (dn := dn) (rf := rf) (kk := kk) (th := th) ⟨h19_12, h20_12, h21_12, h22_12, hbb_12, hbl_12, hb3_12⟩ hn1 hn2 gm hgrw12 hgnx1 ((c3 - 1) + 1) (by first | assumption | omega) (kc := 0) (ks := 0)) hdp (st := []) (Nat.le_of_ble_eq_true rfl) rfl (kr_P fun v17 hv17 => ?_) kx_I
            rcases hv17 with ⟨rfl, hk17_0⟩ | ⟨q17, rfl, hk17_0, hk17_1, hk17_2, hk17_3⟩
            · refine J_istore_n (pc := 54) dX8_evenNow_54 rfl (by decide) rfl ?_
              show J X mX8_evenNow d (kc - 13) (ks - 2054) 55 [some (.ref 19), some (.int (nI s)), some (.int x16), some (.int (-1))] [] w12 _
              refine J_goto (pc := 55) (tgt := 13) dX8_evenNow_55 (by decide) ?_
              exact J_sub (L' := [some (.ref 19), some (.int (nI s)), some (.int x16), some (.int (nI 0 + Int32.ofInt (-1)))]) ⟨rfl, ⟨rfl, ⟨rfl, ⟨(congrArg (fun z => some (Value.int z)) (by decide : (-1 : Int32) = nI 0 + Int32.ofInt (-1))), trivial⟩⟩⟩⟩ (ihlp13_3 w12 rw12 x16 0 ⟨h19_12, h20_12, h21_12, h22_12, hbb_12, hbl_12, hb3_12⟩ hF12 hgrw12 (by first | assumption | omega) (by exact mu_dec (by assumption) (by omega) (by omega) (by omega)))
            · refine J_istore_n (pc := 54) dX8_evenNow_54 rfl (by decide) rfl ?_
              show J X mX8_evenNow d (kc - 13) (ks - 2054) 55 [some (.ref 19), some (.int (nI s)), some (.int x16), some (.int (nI q17))] [] w12 _
              refine J_goto (pc := 55) (tgt := 13) dX8_evenNow_55 (by decide) ?_
              exact J_sub (L' := [some (.ref 19), some (.int (nI s)), some (.int x16), some (.int (nI (q17 + 1) + Int32.ofInt (-1)))]) ⟨rfl, ⟨rfl, ⟨rfl, ⟨(congrArg (fun z => some (Value.int z)) (nI_n1 q17)), trivial⟩⟩⟩⟩ (ihlp13_3 w12 rw12 x16 (q17 + 1) ⟨h19_12, h20_12, h21_12, h22_12, hbb_12, hbl_12, hb3_12⟩ hF12 hgrw12 (by first | assumption | omega) (by exact mu_dec (by assumption) (by omega) (by omega) (by omega)))
          · refine J_iconst (pc := 40) (v := nI 1) dX8_evenNow_40 (by decide) ?_
            refine J_goto (pc := 41) (tgt := 45) dX8_evenNow_41 (by decide) ?_
            refine J_iadd (pc := 45) dX8_evenNow_45 (J_absI fun x18 => ?_)
            refine J_istore_n (pc := 46) dX8_evenNow_46 rfl (by decide) rfl ?_
            show J X mX8_evenNow d (kc - 13) (ks - 2054) 47 [some (.ref 19), some (.int (nI s)), some (.int x18), some (.int (nI (c3 - 1)))] [] w12 _
            refine J_aload_n (pc := 47) dX8_evenNow_47 rfl rfl rfl ?_
            refine J_iload_n (pc := 48) dX8_evenNow_48 rfl rfl ?_
            refine J_iconst (pc := 49) (v := nI 1) dX8_evenNow_49 (by decide) ?_
            refine J_iaddN (pc := 50) dX8_evenNow_50 ?_
            refine J_callV0 (pc := 51) (M := mX8_evenNow) (as := [.int (nI ((c3 - 1) + 1))]) dX8_evenNow_51 fw_X8_from fl_X8_137 fm_X8_from fe_X8_from h19_12 (by decide) rfl rfl rfl (c_X8_from hs (d := d - 1) (Nat.le_trans (by decide) hdm) (w := w12) (n := n) (mv := mv) (rw := rw12) (nx := nx1) (b := b1) (bt := bt1) (kn := kn1) (en := en1) (dn := dn) (rf := rf) (kk := kk) (th := th) ⟨h19_12, h20_12, h21_12, h22_12, hbb_12, hbl_12, hb3_12⟩ hn1 hn2 gm hgrw12 hgnx1 ((c3 - 1) + 1) (by first | assumption | omega) (kc := 0) (ks := 0)) hdp (st := []) (Nat.le_of_ble_eq_true rfl) rfl (kr_P fun v19 hv19 => ?_) kx_I
            rcases hv19 with ⟨rfl, hk19_0⟩ | ⟨q19, rfl, hk19_0, hk19_1, hk19_2, hk19_3⟩
            · refine J_istore_n (pc := 54) dX8_evenNow_54 rfl (by decide) rfl ?_
              show J X mX8_evenNow d (kc - 13) (ks - 2054) 55 [some (.ref 19), some (.int (nI s)), some (.int x18), some (.int (-1))] [] w12 _
              refine J_goto (pc := 55) (tgt := 13) dX8_evenNow_55 (by decide) ?_
              exact J_sub (L' := [some (.ref 19), some (.int (nI s)), some (.int x18), some (.int (nI 0 + Int32.ofInt (-1)))]) ⟨rfl, ⟨rfl, ⟨rfl, ⟨(congrArg (fun z => some (Value.int z)) (by decide : (-1 : Int32) = nI 0 + Int32.ofInt (-1))), trivial⟩⟩⟩⟩ (ihlp13_3 w12 rw12 x18 0 ⟨h19_12, h20_12, h21_12, h22_12, hbb_12, hbl_12, hb3_12⟩ hF12 hgrw12 (by first | assumption | omega) (by exact mu_dec (by assumption) (by omega) (by omega) (by omega)))
            · refine J_istore_n (pc := 54) dX8_evenNow_54 rfl (by decide) rfl ?_
              show J X mX8_evenNow d (kc - 13) (ks - 2054) 55 [some (.ref 19), some (.int (nI s)), some (.int x18), some (.int (nI q19))] [] w12 _
              refine J_goto (pc := 55) (tgt := 13) dX8_evenNow_55 (by decide) ?_
              exact J_sub (L' := [some (.ref 19), some (.int (nI s)), some (.int x18), some (.int (nI (q19 + 1) + Int32.ofInt (-1)))]) ⟨rfl, ⟨rfl, ⟨rfl, ⟨(congrArg (fun z => some (Value.int z)) (nI_n1 q19)), trivial⟩⟩⟩⟩ (ihlp13_3 w12 rw12 x18 (q19 + 1) ⟨h19_12, h20_12, h21_12, h22_12, hbb_12, hbl_12, hb3_12⟩ hF12 hgrw12 (by first | assumption | omega) (by exact mu_dec (by assumption) (by omega) (by omega) (by omega)))
    exact J_sub (L' := [some (.ref 19), some (.int (nI s)), some (.int (nI 0)), some (.int (nI 0 + Int32.ofInt (-1)))]) ⟨rfl, ⟨rfl, ⟨rfl, ⟨(congrArg (fun z => some (Value.int z)) (by decide : (-1 : Int32) = nI 0 + Int32.ofInt (-1))), trivial⟩⟩⟩⟩ (lp13_3 _ w1 rw1 (nI 0) 0 ⟨h19_1, h20_1, h21_1, h22_1, hbb_1, hbl_1, hb3_1⟩ hF1 hgrw1 (by first | assumption | omega) (Nat.lt_succ_self _))
  · refine J_istore_n (pc := 12) dX8_evenNow_12 rfl (by decide) rfl ?_
    show J X mX8_evenNow d (kc - 13) (ks - 2054) 13 [some (.ref 19), some (.int (nI s)), some (.int (nI 0)), some (.int (nI q2))] [] w1 _
    have lp13_20 : ∀ (fuel : Nat) (w21 : List jC) (rw_13 : Nat → Nat) (z2 : Int32) (c3 : Nat), (RM n mv rw_13 nx1 b1 bt1 kn1 en1 dn rf kk th w21) → (FR b b1 w w21) → (∀ i, rw_13 i < 7) → (c3 ≤ fc n) → (mu (fc n) c3 < fuel) → J X mX8_evenNow d (kc - 13) (ks - 2054) 13 [some (.ref 19), some (.int (nI s)), some (.int z2), some (.int (nI c3 + Int32.ofInt (-1)))] [] w21 (pI (fun _ => True) (fun w' => ∃ (rw' : Nat → Nat), ∃ (nx' : Nat → Nat), ∃ (b' : Nat), ∃ (bt' : List Int32), ∃ (kn' : Int32), ∃ (en' : Int32), RM n mv rw' nx' b' bt' kn' en' dn rf kk th w' ∧ FR b b' w w' ∧ (∀ i, rw' i < 7) ∧ (∀ i, nx' i < 7) ∧ kn' = nI s ∧ BX n mv s bt')) := by
      intro fuellp13_20
      induction fuellp13_20 with
      | zero => intros; omega
      | succ fuellp13_20 ihlp13_20 =>
        intro w21 rw_13 z2 c3 hR22 hF23 gr24 hv13_0 hf25
        obtain ⟨h19_26, h20_26, h21_26, h22_26, hb_26, hbl_26, hb3_26⟩ := hR22
        refine J_iload_n (pc := 13) dX8_evenNow_13 rfl rfl ?_
        refine J_if_ltM (pc := 14) (tgt := 58) dX8_evenNow_14 (by decide) (by omega) (fun ht27 => ?_) (fun hf28 => ?_)
        · refine J_iload_n (pc := 58) dX8_evenNow_58 rfl rfl ?_
          exact J_iret (pc := 59) dX8_evenNow_59 rfl ⟨trivial, ⟨rw_13, nx1, b1, bt1, kn1, en1, ⟨h19_26, h20_26, h21_26, h22_26, hb_26, hbl_26, hb3_26⟩, hF23, gr24, hgnx1, (by first | assumption | omega), (by first | assumption | omega)⟩⟩
        · rw [nI_m1 hf28]
          refine J_aload_n (pc := 17) dX8_evenNow_17 rfl rfl rfl ?_
          refine J_iload_n (pc := 18) dX8_evenNow_18 rfl rfl ?_
          refine J_aload_n (pc := 19) dX8_evenNow_19 rfl rfl rfl ?_
          refine J_get (pc := 20) (k := 2) dX8_evenNow_20 kC9 (by decide) ff_X8_17 h19_26 rfl ?_
          refine J_callV0 (pc := 23) (M := mX8_evenNow) (as := [.int (nI (c3 - 1)), .ref 21]) dX8_evenNow_23 fw_X8_rowOf fl_X8_78 fm_X8_rowOf fe_X8_rowOf h19_26 (by decide) rfl rfl rfl (c_X8_rowOf hs (d := d - 1) (Nat.le_trans (by decide) hdm) (w := w21) (n := n) (mv := mv) (rw := rw_13) (nx := nx1) (b := b1) (bt := bt1) (kn := kn1) (en := en1) (dn := dn) (rf := rf) (kk := kk) (th := th) ⟨h19_26, h20_26, h21_26, h22_26, hb_26, hbl_26, hb3_26⟩ hn1 hn2 gm gr24 hgnx1 (c3 - 1) (by first | assumption | omega) (kc := 0) (ks := 0)) hdp (st := []) (Nat.le_of_ble_eq_true rfl) rfl (kr_V fun w29 hw29 => ?_) kx_V
          obtain ⟨rw29, hR29, hFc29, hgrw29, hp29_0⟩ := hw29
          obtain ⟨h19_29, h20_29, h21_29, h22_29, hbb_29, hbl_29, hb3_29⟩ := hR29
          have hF29 := hF23.tr hFc29
          refine J_iload_n (pc := 26) dX8_evenNow_26 rfl rfl ?_
          refine J_aload_n (pc := 27) dX8_evenNow_27 rfl rfl rfl ?_
          refine J_aload_n (pc := 28) dX8_evenNow_28 rfl rfl rfl ?_
          refine J_get (pc := 29) (k := 2) dX8_evenNow_29 kC9 (by decide) ff_X8_17 h19_29 rfl ?_
          refine J_iconst (pc := 32) (v := nI 0) dX8_evenNow_32 (by decide) ?_
          refine J_callV0 (pc := 33) (M := mX8_evenNow) (as := [.ref 21, .int (nI 0)]) dX8_evenNow_33 fw_X8_signOf fl_X8_115 fm_X8_signOf fe_X8_signOf h19_29 (by decide) rfl rfl rfl (c_X8_signOf_at21 hs (d := d - 1) (Nat.le_trans (by decide) hdm) (w := w29) (n := n) (mv := mv) (rw := rw29) (nx := nx1) (b := b1) (bt := bt1) (kn := kn1) (en := en1) (dn := dn) (rf := rf) (kk := kk) (th := th) ⟨h19_29, h20_29, h21_29, h22_29, hbb_29, hbl_29, hb3_29⟩ hn1 hn2 gm hgrw29 hgnx1 0 (by first | assumption | omega) (kc := 0) (ks := 0)) hdp (st := [.int z2]) (Nat.le_of_ble_eq_true rfl) rfl (kr_P fun v30 hv30 => ?_) kx_I
          refine J_iconst (pc := 36) (v := nI 1) dX8_evenNow_36 (by decide) ?_
          refine J_icmp_ne (pc := 37) (tgt := 44) dX8_evenNow_37 (by decide) (fun ht31 => ?_) (fun hf32 => ?_)
          · refine J_iconst (pc := 44) (v := nI 0) dX8_evenNow_44 (by decide) ?_
            refine J_iadd (pc := 45) dX8_evenNow_45 (J_absI fun x33 => ?_)
            refine J_istore_n (pc := 46) dX8_evenNow_46 rfl (by decide) rfl ?_
            show J X mX8_evenNow d (kc - 13) (ks - 2054) 47 [some (.ref 19), some (.int (nI s)), some (.int x33), some (.int (nI (c3 - 1)))] [] w29 _
            refine J_aload_n (pc := 47) dX8_evenNow_47 rfl rfl rfl ?_
            refine J_iload_n (pc := 48) dX8_evenNow_48 rfl rfl ?_
            refine J_iconst (pc := 49) (v := nI 1) dX8_evenNow_49 (by decide) ?_
            refine J_iaddN (pc := 50) dX8_evenNow_50 ?_
            refine J_callV0 (pc := 51) (M := mX8_evenNow) (as := [.int (nI ((c3 - 1) + 1))]) dX8_evenNow_51 fw_X8_from fl_X8_137 fm_X8_from fe_X8_from h19_29 (by decide) rfl rfl rfl (c_X8_from hs (d := d - 1) (Nat.le_trans (by decide) hdm) (w := w29) (n := n) (mv := mv) (rw := rw29) (nx := nx1) (b := b1) (bt := bt1) (kn := kn1) (en := en1) (dn := dn) (rf := rf) (kk := kk) (th := th) ⟨h19_29, h20_29, h21_29, h22_29, hbb_29, hbl_29, hb3_29⟩ hn1 hn2 gm hgrw29 hgnx1 ((c3 - 1) + 1) (by first | assumption | omega) (kc := 0) (ks := 0)) hdp (st := []) (Nat.le_of_ble_eq_true rfl) rfl (kr_P fun v34 hv34 => ?_) kx_I
            rcases hv34 with ⟨rfl, hk34_0⟩ | ⟨q34, rfl, hk34_0, hk34_1, hk34_2, hk34_3⟩
            · refine J_istore_n (pc := 54) dX8_evenNow_54 rfl (by decide) rfl ?_
              show J X mX8_evenNow d (kc - 13) (ks - 2054) 55 [some (.ref 19), some (.int (nI s)), some (.int x33), some (.int (-1))] [] w29 _
              refine J_goto (pc := 55) (tgt := 13) dX8_evenNow_55 (by decide) ?_
              exact J_sub (L' := [some (.ref 19), some (.int (nI s)), some (.int x33), some (.int (nI 0 + Int32.ofInt (-1)))]) ⟨rfl, ⟨rfl, ⟨rfl, ⟨(congrArg (fun z => some (Value.int z)) (by decide : (-1 : Int32) = nI 0 + Int32.ofInt (-1))), trivial⟩⟩⟩⟩ (ihlp13_20 w29 rw29 x33 0 ⟨h19_29, h20_29, h21_29, h22_29, hbb_29, hbl_29, hb3_29⟩ hF29 hgrw29 (by first | assumption | omega) (by exact mu_dec (by assumption) (by omega) (by omega) (by omega)))
            · refine J_istore_n (pc := 54) dX8_evenNow_54 rfl (by decide) rfl ?_
              show J X mX8_evenNow d (kc - 13) (ks - 2054) 55 [some (.ref 19), some (.int (nI s)), some (.int x33), some (.int (nI q34))] [] w29 _
              refine J_goto (pc := 55) (tgt := 13) dX8_evenNow_55 (by decide) ?_
              exact J_sub (L' := [some (.ref 19), some (.int (nI s)), some (.int x33), some (.int (nI (q34 + 1) + Int32.ofInt (-1)))]) ⟨rfl, ⟨rfl, ⟨rfl, ⟨(congrArg (fun z => some (Value.int z)) (nI_n1 q34)), trivial⟩⟩⟩⟩ (ihlp13_20 w29 rw29 x33 (q34 + 1) ⟨h19_29, h20_29, h21_29, h22_29, hbb_29, hbl_29, hb3_29⟩ hF29 hgrw29 (by first | assumption | omega) (by exact mu_dec (by assumption) (by omega) (by omega) (by omega)))
          · refine J_iconst (pc := 40) (v := nI 1) dX8_evenNow_40 (by decide) ?_
            refine J_goto (pc := 41) (tgt := 45) dX8_evenNow_41 (by decide) ?_
            refine J_iadd (pc := 45) dX8_evenNow_45 (J_absI fun x35 => ?_)
            refine J_istore_n (pc := 46) dX8_evenNow_46 rfl (by decide) rfl ?_
            show J X mX8_evenNow d (kc - 13) (ks - 2054) 47 [some (.ref 19), some (.int (nI s)), some (.int x35), some (.int (nI (c3 - 1)))] [] w29 _
            refine J_aload_n (pc := 47) dX8_evenNow_47 rfl rfl rfl ?_
            refine J_iload_n (pc := 48) dX8_evenNow_48 rfl rfl ?_
            refine J_iconst (pc := 49) (v := nI 1) dX8_evenNow_49 (by decide) ?_
            refine J_iaddN (pc := 50) dX8_evenNow_50 ?_
            refine J_callV0 (pc := 51) (M := mX8_evenNow) (as := [.int (nI ((c3 - 1) + 1))]) dX8_evenNow_51 fw_X8_from fl_X8_137 fm_X8_from fe_X8_from h19_29 (by decide) rfl rfl rfl (c_X8_from hs (d := d - 1) (Nat.le_trans (by decide) hdm) (w := w29) (n := n) (mv := mv) (rw := rw29) (nx := nx1) (b := b1) (bt := bt1) (kn := kn1) (en := en1) (dn := dn) (rf := rf) (kk := kk) (th := th) ⟨h19_29, h20_29, h21_29, h22_29, hbb_29, hbl_29, hb3_29⟩ hn1 hn2 gm hgrw29 hgnx1 ((c3 - 1) + 1) (by first | assumption | omega) (kc := 0) (ks := 0)) hdp (st := []) (Nat.le_of_ble_eq_true rfl) rfl (kr_P fun v36 hv36 => ?_) kx_I
            rcases hv36 with ⟨rfl, hk36_0⟩ | ⟨q36, rfl, hk36_0, hk36_1, hk36_2, hk36_3⟩
            · refine J_istore_n (pc := 54) dX8_evenNow_54 rfl (by decide) rfl ?_
              show J X mX8_evenNow d (kc - 13) (ks - 2054) 55 [some (.ref 19), some (.int (nI s)), some (.int x35), some (.int (-1))] [] w29 _
              refine J_goto (pc := 55) (tgt := 13) dX8_evenNow_55 (by decide) ?_
              exact J_sub (L' := [some (.ref 19), some (.int (nI s)), some (.int x35), some (.int (nI 0 + Int32.ofInt (-1)))]) ⟨rfl, ⟨rfl, ⟨rfl, ⟨(congrArg (fun z => some (Value.int z)) (by decide : (-1 : Int32) = nI 0 + Int32.ofInt (-1))), trivial⟩⟩⟩⟩ (ihlp13_20 w29 rw29 x35 0 ⟨h19_29, h20_29, h21_29, h22_29, hbb_29, hbl_29, hb3_29⟩ hF29 hgrw29 (by first | assumption | omega) (by exact mu_dec (by assumption) (by omega) (by omega) (by omega)))
            · refine J_istore_n (pc := 54) dX8_evenNow_54 rfl (by decide) rfl ?_
              show J X mX8_evenNow d (kc - 13) (ks - 2054) 55 [some (.ref 19), some (.int (nI s)), some (.int x35), some (.int (nI q36))] [] w29 _
              refine J_goto (pc := 55) (tgt := 13) dX8_evenNow_55 (by decide) ?_
              exact J_sub (L' := [some (.ref 19), some (.int (nI s)), some (.int x35), some (.int (nI (q36 + 1) + Int32.ofInt (-1)))]) ⟨rfl, ⟨rfl, ⟨rfl, ⟨(congrArg (fun z => some (Value.int z)) (nI_n1 q36)), trivial⟩⟩⟩⟩ (ihlp13_20 w29 rw29 x35 (q36 + 1) ⟨h19_29, h20_29, h21_29, h22_29, hbb_29, hbl_29, hb3_29⟩ hF29 hgrw29 (by first | assumption | omega) (by exact mu_dec (by assumption) (by omega) (by omega) (by omega)))
    exact J_sub (L' := [some (.ref 19), some (.int (nI s)), some (.int (nI 0)), some (.int (nI (q2 + 1) + Int32.ofInt (-1)))]) ⟨rfl, ⟨rfl, ⟨rfl, ⟨(congrArg (fun z => some (Value.int z)) (nI_n1 q2)), trivial⟩⟩⟩⟩ (lp13_20 _ w1 rw1 (nI 0) (q2 + 1) ⟨h19_1, h20_1, h21_1, h22_1, hbb_1, hbl_1, hb3_1⟩ hF1 hgrw1 (by first | assumption | omega) (Nat.lt_succ_self _))
end
section
/-! contracts of the reference: rspec4 -/
set_option maxRecDepth 100000 in
set_option maxHeartbeats 4000000 in
theorem c_X8_byThoseThatStay {X : jX} (hs : X.1.stackTraces = false) {d : Nat} (hd : 4 ≤ d) {n : Nat} {mv rw nx : Nat → Nat} {b : Nat} {bt : List Int32} {kn en dn rf kk th : Int32} {w : List jC} (hR : RM n mv rw nx b bt kn en dn rf kk th w) (hn1 : 2 ≤ n) (hn2 : n ≤ 7) (gm : ∀ i, mv i < 7) (gr : ∀ i, rw i < 7) (gx : ∀ i, nx i < 7) (s : Nat) (c : Int32) (hy0 : s < 64) (hy1 : PM n mv) (hy2 : KX n mv kn bt) {kc ks : Nat} (hkc : 13 ≤ kc) (hks : 2054 ≤ ks) : jMet X mX8_byThoseThatStay d kc ks [.ref 19, .int (nI s), .int c] w (pI (fun _ => True) (fun w' => ∃ (rw' : Nat → Nat), ∃ (nx' : Nat → Nat), ∃ (b' : Nat), ∃ (bt' : List Int32), ∃ (kn' : Int32), ∃ (en' : Int32), RM n mv rw' nx' b' bt' kn' en' dn rf kk th w' ∧ FR b b' w w' ∧ (∀ i, rw' i < 7) ∧ (∀ i, nx' i < 7) ∧ kn' = nI s ∧ BX n mv s bt')) := by
  refine jMet_of hs (by decide +kernel) (Nat.le_of_ble_eq_true rfl) (L := [some (.ref 19), some (.int (nI s)), some (.int c), none, none, none, none]) rfl ?_
  have hdm : 3 ≤ d - 1 := by omega
  have hdp : d - 1 + 1 ≤ d := by omega
  have hfc := fc_7 hn2
  have hfp := fc_pos n
  obtain ⟨h19, h20, h21, h22, hbb, hbl, hb3⟩ := hR
  have hF : FR b b w w := FR.rf
  refine J_aload_n (pc := 0) dX8_byThoseThatStay_0 rfl rfl rfl ?_
  refine J_iload_n (pc := 1) dX8_byThoseThatStay_1 rfl rfl ?_
  refine J_callV (pc := 2) (M := mX8_byThoseThatStay) (as := [.int (nI s)]) dX8_byThoseThatStay_2 fw_X8_group fl_X8_99 fm_X8_group fe_X8_group h19 (by decide) rfl rfl rfl (c_X8_group_ate hs (d := d - 1) (Nat.le_trans (by decide) hdm) (w := w) (n := n) (mv := mv) (rw := rw) (nx := nx) (b := b) (bt := bt) (kn := kn) (en := en) (dn := dn) (rf := rf) (kk := kk) (th := th) ⟨h19, h20, h21, h22, hbb, hbl, hb3⟩ hn1 hn2 gm gr gx s (by first | assumption | omega) (by first | assumption | omega) (by first | assumption | omega) (kc := 13) (ks := 2054) (Nat.le_refl _) (Nat.le_refl _)) hdp (by omega) (by omega) (st := []) (Nat.le_of_ble_eq_true rfl) rfl (kr_V fun w1 hw1 => ?_) kx_V
  obtain ⟨rw1, nx1, b1, bt1, kn1, en1, hR1, hFc1, hgrw1, hgnx1, hp1_0, hp1_1⟩ := hw1
  obtain ⟨h19_1, h20_1, h21_1, h22_1, hbb_1, hbl_1, hb3_1⟩ := hR1
  have qd1 := hFc1.2.1
  have hF1 := hF.tr hFc1
  have hBT := hp1_1
  refine J_iconst (pc := 5) (v := nI 0) dX8_byThoseThatStay_5 (by decide) ?_
  refine J_istore_n (pc := 6) dX8_byThoseThatStay_6 rfl (by decide) rfl ?_
  show J X mX8_byThoseThatStay d (kc - 13) (ks - 2054) 7 [some (.ref 19), some (.int (nI s)), some (.int c), some (.int (nI 0)), none, none, none] [] w1 _
  refine J_aload_n (pc := 7) dX8_byThoseThatStay_7 rfl rfl rfl ?_
  refine J_iconst (pc := 8) (v := nI 0) dX8_byThoseThatStay_8 (by decide) ?_
  refine J_callV0 (pc := 9) (M := mX8_byThoseThatStay) (as := [.int (nI 0)]) dX8_byThoseThatStay_9 fw_X8_from fl_X8_137 fm_X8_from fe_X8_from h19_1 (by decide) rfl rfl rfl (c_X8_from hs (d := d - 1) (Nat.le_trans (by decide) hdm) (w := w1) (n := n) (mv := mv) (rw := rw1) (nx := nx1) (b := b1) (bt := bt1) (kn := kn1) (en := en1) (dn := dn) (rf := rf) (kk := kk) (th := th) ⟨h19_1, h20_1, h21_1, h22_1, hbb_1, hbl_1, hb3_1⟩ hn1 hn2 gm hgrw1 hgnx1 0 (by first | assumption | omega) (kc := 0) (ks := 0)) hdp (st := []) (Nat.le_of_ble_eq_true rfl) rfl (kr_P fun v2 hv2 => ?_) kx_I
  rcases hv2 with ⟨rfl, hk2_0⟩ | ⟨q2, rfl, hk2_0, hk2_1, hk2_2, hk2_3⟩
  · refine J_istore (pc := 12) dX8_byThoseThatStay_12 (by decide) rfl ?_
    show J X mX8_byThoseThatStay d (kc - 13) (ks - 2054) 14 [some (.ref 19), some (.int (nI s)), some (.int c), some (.int (nI 0)), some (.int (-1)), none, none] [] w1 _
    have lp14_3 : ∀ (fuel : Nat) (w4 : List jC) (rw_14 : Nat → Nat) (z3 : Int32) (c4 : Nat), (RM n mv rw_14 nx1 b1 bt1 kn1 en1 dn rf kk th w4) → (FR b b1 w w4) → (∀ i, rw_14 i < 7) → (c4 ≤ fc n) → (mu (fc n) c4 < fuel) → J X mX8_byThoseThatStay d (kc - 13) (ks - 2054) 14 [some (.ref 19), some (.int (nI s)), some (.int c), some (.int z3), some (.int (nI c4 + Int32.ofInt (-1))), none, none] [] w4 (pI (fun _ => True) (fun w' => ∃ (rw' : Nat → Nat), ∃ (nx' : Nat → Nat), ∃ (b' : Nat), ∃ (bt' : List Int32), ∃ (kn' : Int32), ∃ (en' : Int32), RM n mv rw' nx' b' bt' kn' en' dn rf kk th w' ∧ FR b b' w w' ∧ (∀ i, rw' i < 7) ∧ (∀ i, nx' i < 7) ∧ kn' = nI s ∧ BX n mv s bt')) := by
      intro fuellp14_3
      induction fuellp14_3 with
      | zero => intros; omega
      | succ fuellp14_3 ihlp14_3 =>
        intro w4 rw_14 z3 c4 hR5 hF6 gr7 hv14_0 hf8
        obtain ⟨h19_9, h20_9, h21_9, h22_9, hb_9, hbl_9, hb3_9⟩ := hR5
        refine J_iload (pc := 14) dX8_byThoseThatStay_14 rfl ?_
        refine J_if_ltM (pc := 16) (tgt := 78) dX8_byThoseThatStay_16 (by decide) (by omega) (fun ht10 => ?_) (fun hf11 => ?_)
        · refine J_iload_n (pc := 78) dX8_byThoseThatStay_78 rfl rfl ?_
          refine J_aload_n (pc := 79) dX8_byThoseThatStay_79 rfl rfl rfl ?_
          refine J_callV0 (pc := 80) (M := mX8_byThoseThatStay) (as := []) dX8_byThoseThatStay_80 fw_X8_sizeNow fl_X8_102 fm_X8_sizeNow fe_X8_sizeNow h19_9 (by decide) rfl rfl rfl (c_X8_sizeNow hs (d := d - 1) (Nat.le_trans (by decide) hdm) (w := w4) (n := n) (mv := mv) (rw := rw_14) (nx := nx1) (b := b1) (bt := bt1) (kn := kn1) (en := en1) (dn := dn) (rf := rf) (kk := kk) (th := th) ⟨h19_9, h20_9, h21_9, h22_9, hb_9, hbl_9, hb3_9⟩ hn1 hn2 gm gr7 hgnx1  (kc := 0) (ks := 0)) hdp (st := [.int z3]) (Nat.le_of_ble_eq_true rfl) rfl (kr_P fun v12 hv12 => ?_) kx_I
          subst hv12
          have hsz := cnt_pos (P := bitL bt1) 5056 0 (by decide) (BX_BT hn1 hn2 hBT).2
          have hsz2 := cnt_le (bitL bt1) 5056
          refine J_idiv (pc := 83) dX8_byThoseThatStay_83 (nI_ne0 (by omega) (by omega)) (J_absI fun x13 => ?_)
          exact J_iret (pc := 84) dX8_byThoseThatStay_84 rfl ⟨trivial, ⟨rw_14, nx1, b1, bt1, kn1, en1, ⟨h19_9, h20_9, h21_9, h22_9, hb_9, hbl_9, hb3_9⟩, hF6, gr7, hgnx1, (by first | assumption | omega), (by first | assumption | omega)⟩⟩
        · rw [nI_m1 hf11]
          refine J_aload_n (pc := 19) dX8_byThoseThatStay_19 rfl rfl rfl ?_
          refine J_iload (pc := 20) dX8_byThoseThatStay_20 rfl ?_
          refine J_aload_n (pc := 22) dX8_byThoseThatStay_22 rfl rfl rfl ?_
          refine J_get (pc := 23) (k := 2) dX8_byThoseThatStay_23 kC9 (by decide) ff_X8_17 h19_9 rfl ?_
          refine J_callV0 (pc := 26) (M := mX8_byThoseThatStay) (as := [.int (nI (c4 - 1)), .ref 21]) dX8_byThoseThatStay_26 fw_X8_rowOf fl_X8_78 fm_X8_rowOf fe_X8_rowOf h19_9 (by decide) rfl rfl rfl (c_X8_rowOf hs (d := d - 1) (Nat.le_trans (by decide) hdm) (w := w4) (n := n) (mv := mv) (rw := rw_14) (nx := nx1) (b := b1) (bt := bt1) (kn := kn1) (en := en1) (dn := dn) (rf := rf) (kk := kk) (th := th) ⟨h19_9, h20_9, h21_9, h22_9, hb_9, hbl_9, hb3_9⟩ hn1 hn2 gm gr7 hgnx1 (c4 - 1) (by first | assumption | omega) (kc := 0) (ks := 0)) hdp (st := []) (Nat.le_of_ble_eq_true rfl) rfl (kr_V fun w14 hw14 => ?_) kx_V
          obtain ⟨rw14, hR14, hFc14, hgrw14, hp14_0⟩ := hw14
          obtain ⟨h19_14, h20_14, h21_14, h22_14, hbb_14, hbl_14, hb3_14⟩ := hR14
          have hF14 := hF6.tr hFc14
          have hPr := Pn_row (by omega) hp14_0
          refine J_iconst (pc := 29) (v := nI 1) dX8_byThoseThatStay_29 (by decide) ?_
          refine J_istore (pc := 30) dX8_byThoseThatStay_30 (by decide) rfl ?_
          show J X mX8_byThoseThatStay d (kc - 13) (ks - 2054) 32 [some (.ref 19), some (.int (nI s)), some (.int c), some (.int z3), some (.int (nI (c4 - 1))), some (.int (nI 1)), none] [] w14 _
          refine J_aload_n (pc := 32) dX8_byThoseThatStay_32 rfl rfl rfl ?_
          refine J_aload_n (pc := 33) dX8_byThoseThatStay_33 rfl rfl rfl ?_
          refine J_get (pc := 34) (k := 2) dX8_byThoseThatStay_34 kC9 (by decide) ff_X8_17 h19_14 rfl ?_
          refine J_iconst (pc := 37) (v := nI 0) dX8_byThoseThatStay_37 (by decide) ?_
          refine J_callV0 (pc := 38) (M := mX8_byThoseThatStay) (as := [.ref 21, .int (nI 0)]) dX8_byThoseThatStay_38 fw_X8_ringsOf fl_X8_203 fm_X8_ringsOf fe_X8_ringsOf h19_14 (by decide) rfl rfl rfl (c_X8_ringsOf_at21 hs (d := d - 1) (Nat.le_trans (by decide) hdm) (w := w14) (n := n) (mv := mv) (rw := rw14) (nx := nx1) (b := b1) (bt := bt1) (kn := kn1) (en := en1) (dn := dn) (rf := rf) (kk := kk) (th := th) ⟨h19_14, h20_14, h21_14, h22_14, hbb_14, hbl_14, hb3_14⟩ hn1 hn2 gm hgrw14 hgnx1 0 (by first | assumption | omega) (by exact Pn_z hPr) (kc := 0) (ks := 0)) hdp (st := []) (Nat.le_of_ble_eq_true rfl) rfl (kr_P fun v15 hv15 => ?_) kx_I
          obtain ⟨k15, rfl, hk15⟩ := hv15
          refine J_istore (pc := 41) dX8_byThoseThatStay_41 (by decide) rfl ?_
          show J X mX8_byThoseThatStay d (kc - 13) (ks - 2054) 43 [some (.ref 19), some (.int (nI s)), some (.int c), some (.int z3), some (.int (nI (c4 - 1))), some (.int (nI 1)), some (.int (nI k15))] [] w14 _
          have lp43_16 : ∀ (fuel : Nat) (z5 : Int32) (c6 : Nat), (c6 ≤ 7) → (c6 < fuel) → J X mX8_byThoseThatStay d (kc - 13) (ks - 2054) 43 [some (.ref 19), some (.int (nI s)), some (.int c), some (.int z3), some (.int (nI (c4 - 1))), some (.int z5), some (.int (nI c6))] [] w14 (pI (fun _ => True) (fun w' => ∃ (rw' : Nat → Nat), ∃ (nx' : Nat → Nat), ∃ (b' : Nat), ∃ (bt' : List Int32), ∃ (kn' : Int32), ∃ (en' : Int32), RM n mv rw' nx' b' bt' kn' en' dn rf kk th w' ∧ FR b b' w w' ∧ (∀ i, rw' i < 7) ∧ (∀ i, nx' i < 7) ∧ kn' = nI s ∧ BX n mv s bt')) := by
            intro fuellp43_16
            induction fuellp43_16 with
            | zero => intros; omega
            | succ fuellp43_16 ihlp43_16 =>
              intro z5 c6 hv43_0 hf17
              refine J_iload (pc := 43) dX8_byThoseThatStay_43 rfl ?_
              refine J_if_leN (pc := 45) (tgt := 60) dX8_byThoseThatStay_45 (by decide) (by omega) (fun ht18 => ?_) (fun hf19 => ?_)
              · refine J_iload_n (pc := 60) dX8_byThoseThatStay_60 rfl rfl ?_
                refine J_iload (pc := 61) dX8_byThoseThatStay_61 rfl ?_
                refine J_iadd (pc := 63) dX8_byThoseThatStay_63 (J_absI fun x20 => ?_)
                refine J_istore_n (pc := 64) dX8_byThoseThatStay_64 rfl (by decide) rfl ?_
                show J X mX8_byThoseThatStay d (kc - 13) (ks - 2054) 65 [some (.ref 19), some (.int (nI s)), some (.int c), some (.int x20), some (.int (nI (c4 - 1))), some (.int z5), some (.int (nI c6))] [] w14 _
                refine J_aload_n (pc := 65) dX8_byThoseThatStay_65 rfl rfl rfl ?_
                refine J_iload (pc := 66) dX8_byThoseThatStay_66 rfl ?_
                refine J_iconst (pc := 68) (v := nI 1) dX8_byThoseThatStay_68 (by decide) ?_
                refine J_iaddN (pc := 69) dX8_byThoseThatStay_69 ?_
                refine J_callV0 (pc := 70) (M := mX8_byThoseThatStay) (as := [.int (nI ((c4 - 1) + 1))]) dX8_byThoseThatStay_70 fw_X8_from fl_X8_137 fm_X8_from fe_X8_from h19_14 (by decide) rfl rfl rfl (c_X8_from hs (d := d - 1) (Nat.le_trans (by decide) hdm) (w := w14) (n := n) (mv := mv) (rw := rw14) (nx := nx1) (b := b1) (bt := bt1) (kn := kn1) (en := en1) (dn := dn) (rf := rf) (kk := kk) (th := th) ⟨h19_14, h20_14, h21_14, h22_14, hbb_14, hbl_14, hb3_14⟩ hn1 hn2 gm hgrw14 hgnx1 ((c4 - 1) + 1) (by first | assumption | omega) (kc := 0) (ks := 0)) hdp (st := []) (Nat.le_of_ble_eq_true rfl) rfl (kr_P fun v21 hv21 => ?_) kx_I
                rcases hv21 with ⟨rfl, hk21_0⟩ | ⟨q21, rfl, hk21_0, hk21_1, hk21_2, hk21_3⟩
                · refine J_istore (pc := 73) dX8_byThoseThatStay_73 (by decide) rfl ?_
                  show J X mX8_byThoseThatStay d (kc - 13) (ks - 2054) 75 [some (.ref 19), some (.int (nI s)), some (.int c), some (.int x20), some (.int (-1)), some (.int z5), some (.int (nI c6))] [] w14 _
                  refine J_goto (pc := 75) (tgt := 14) dX8_byThoseThatStay_75 (by decide) ?_
                  exact J_sub (L' := [some (.ref 19), some (.int (nI s)), some (.int c), some (.int x20), some (.int (nI 0 + Int32.ofInt (-1))), none, none]) ⟨rfl, ⟨rfl, ⟨rfl, ⟨rfl, ⟨(congrArg (fun z => some (Value.int z)) (by decide : (-1 : Int32) = nI 0 + Int32.ofInt (-1))), trivial⟩⟩⟩⟩⟩ (ihlp14_3 w14 rw14 x20 0 ⟨h19_14, h20_14, h21_14, h22_14, hbb_14, hbl_14, hb3_14⟩ hF14 hgrw14 (by first | assumption | omega) (by exact mu_dec (by assumption) (by omega) (by omega) (by omega)))
                · refine J_istore (pc := 73) dX8_byThoseThatStay_73 (by decide) rfl ?_
                  show J X mX8_byThoseThatStay d (kc - 13) (ks - 2054) 75 [some (.ref 19), some (.int (nI s)), some (.int c), some (.int x20), some (.int (nI q21)), some (.int z5), some (.int (nI c6))] [] w14 _
                  refine J_goto (pc := 75) (tgt := 14) dX8_byThoseThatStay_75 (by decide) ?_
                  exact J_sub (L' := [some (.ref 19), some (.int (nI s)), some (.int c), some (.int x20), some (.int (nI (q21 + 1) + Int32.ofInt (-1))), none, none]) ⟨rfl, ⟨rfl, ⟨rfl, ⟨rfl, ⟨(congrArg (fun z => some (Value.int z)) (nI_n1 q21)), trivial⟩⟩⟩⟩⟩ (ihlp14_3 w14 rw14 x20 (q21 + 1) ⟨h19_14, h20_14, h21_14, h22_14, hbb_14, hbl_14, hb3_14⟩ hF14 hgrw14 (by first | assumption | omega) (by exact mu_dec (by assumption) (by omega) (by omega) (by omega)))
              · refine J_iload (pc := 48) dX8_byThoseThatStay_48 rfl ?_
                refine J_iload_n (pc := 50) dX8_byThoseThatStay_50 rfl rfl ?_
                refine J_imul (pc := 51) dX8_byThoseThatStay_51 (J_absI fun x22 => ?_)
                refine J_istore (pc := 52) dX8_byThoseThatStay_52 (by decide) rfl ?_
                show J X mX8_byThoseThatStay d (kc - 13) (ks - 2054) 54 [some (.ref 19), some (.int (nI s)), some (.int c), some (.int z3), some (.int (nI (c4 - 1))), some (.int x22), some (.int (nI c6))] [] w14 _
                refine J_iincM (pc := 54) dX8_byThoseThatStay_54 rfl (by omega) (by decide) rfl ?_
                show J X mX8_byThoseThatStay d (kc - 13) (ks - 2054) 57 [some (.ref 19), some (.int (nI s)), some (.int c), some (.int z3), some (.int (nI (c4 - 1))), some (.int x22), some (.int (nI (c6 - 1)))] [] w14 _
                refine J_goto (pc := 57) (tgt := 43) dX8_byThoseThatStay_57 (by decide) ?_
                exact J_sub (L' := [some (.ref 19), some (.int (nI s)), some (.int c), some (.int z3), some (.int (nI (c4 - 1))), some (.int x22), some (.int (nI (c6 - 1)))]) ⟨rfl, ⟨rfl, ⟨rfl, ⟨rfl, ⟨rfl, ⟨rfl, ⟨rfl, trivial⟩⟩⟩⟩⟩⟩⟩ (ihlp43_16 x22 (c6 - 1) (by first | assumption | omega) (by omega))
          exact J_sub (L' := [some (.ref 19), some (.int (nI s)), some (.int c), some (.int z3), some (.int (nI (c4 - 1))), some (.int (nI 1)), some (.int (nI k15))]) ⟨rfl, ⟨rfl, ⟨rfl, ⟨rfl, ⟨rfl, ⟨rfl, ⟨rfl, trivial⟩⟩⟩⟩⟩⟩⟩ (lp43_16 _ (nI 1) k15 (by first | assumption | omega) (Nat.lt_succ_self _))
    exact J_sub (L' := [some (.ref 19), some (.int (nI s)), some (.int c), some (.int (nI 0)), some (.int (nI 0 + Int32.ofInt (-1))), none, none]) ⟨rfl, ⟨rfl, ⟨rfl, ⟨rfl, ⟨(congrArg (fun z => some (Value.int z)) (by decide : (-1 : Int32) = nI 0 + Int32.ofInt (-1))), trivial⟩⟩⟩⟩⟩ (lp14_3 _ w1 rw1 (nI 0) 0 ⟨h19_1, h20_1, h21_1, h22_1, hbb_1, hbl_1, hb3_1⟩ hF1 hgrw1 (by first | assumption | omega) (Nat.lt_succ_self _))
  · refine J_istore (pc := 12) dX8_byThoseThatStay_12 (by decide) rfl ?_
    show J X mX8_byThoseThatStay d (kc - 13) (ks - 2054) 14 [some (.ref 19), some (.int (nI s)), some (.int c), some (.int (nI 0)), some (.int (nI q2)), none, none] [] w1 _
    have lp14_23 : ∀ (fuel : Nat) (w24 : List jC) (rw_14 : Nat → Nat) (z3 : Int32) (c4 : Nat), (RM n mv rw_14 nx1 b1 bt1 kn1 en1 dn rf kk th w24) → (FR b b1 w w24) → (∀ i, rw_14 i < 7) → (c4 ≤ fc n) → (mu (fc n) c4 < fuel) → J X mX8_byThoseThatStay d (kc - 13) (ks - 2054) 14 [some (.ref 19), some (.int (nI s)), some (.int c), some (.int z3), some (.int (nI c4 + Int32.ofInt (-1))), none, none] [] w24 (pI (fun _ => True) (fun w' => ∃ (rw' : Nat → Nat), ∃ (nx' : Nat → Nat), ∃ (b' : Nat), ∃ (bt' : List Int32), ∃ (kn' : Int32), ∃ (en' : Int32), RM n mv rw' nx' b' bt' kn' en' dn rf kk th w' ∧ FR b b' w w' ∧ (∀ i, rw' i < 7) ∧ (∀ i, nx' i < 7) ∧ kn' = nI s ∧ BX n mv s bt')) := by
      intro fuellp14_23
      induction fuellp14_23 with
      | zero => intros; omega
      | succ fuellp14_23 ihlp14_23 =>
        intro w24 rw_14 z3 c4 hR25 hF26 gr27 hv14_0 hf28
        obtain ⟨h19_29, h20_29, h21_29, h22_29, hb_29, hbl_29, hb3_29⟩ := hR25
        refine J_iload (pc := 14) dX8_byThoseThatStay_14 rfl ?_
        refine J_if_ltM (pc := 16) (tgt := 78) dX8_byThoseThatStay_16 (by decide) (by omega) (fun ht30 => ?_) (fun hf31 => ?_)
        · refine J_iload_n (pc := 78) dX8_byThoseThatStay_78 rfl rfl ?_
          refine J_aload_n (pc := 79) dX8_byThoseThatStay_79 rfl rfl rfl ?_
          refine J_callV0 (pc := 80) (M := mX8_byThoseThatStay) (as := []) dX8_byThoseThatStay_80 fw_X8_sizeNow fl_X8_102 fm_X8_sizeNow fe_X8_sizeNow h19_29 (by decide) rfl rfl rfl (c_X8_sizeNow hs (d := d - 1) (Nat.le_trans (by decide) hdm) (w := w24) (n := n) (mv := mv) (rw := rw_14) (nx := nx1) (b := b1) (bt := bt1) (kn := kn1) (en := en1) (dn := dn) (rf := rf) (kk := kk) (th := th) ⟨h19_29, h20_29, h21_29, h22_29, hb_29, hbl_29, hb3_29⟩ hn1 hn2 gm gr27 hgnx1  (kc := 0) (ks := 0)) hdp (st := [.int z3]) (Nat.le_of_ble_eq_true rfl) rfl (kr_P fun v32 hv32 => ?_) kx_I
          subst hv32
          have hsz := cnt_pos (P := bitL bt1) 5056 0 (by decide) (BX_BT hn1 hn2 hBT).2
          have hsz2 := cnt_le (bitL bt1) 5056
          refine J_idiv (pc := 83) dX8_byThoseThatStay_83 (nI_ne0 (by omega) (by omega)) (J_absI fun x33 => ?_)
          exact J_iret (pc := 84) dX8_byThoseThatStay_84 rfl ⟨trivial, ⟨rw_14, nx1, b1, bt1, kn1, en1, ⟨h19_29, h20_29, h21_29, h22_29, hb_29, hbl_29, hb3_29⟩, hF26, gr27, hgnx1, (by first | assumption | omega), (by first | assumption | omega)⟩⟩
        · rw [nI_m1 hf31]
          refine J_aload_n (pc := 19) dX8_byThoseThatStay_19 rfl rfl rfl ?_
          refine J_iload (pc := 20) dX8_byThoseThatStay_20 rfl ?_
          refine J_aload_n (pc := 22) dX8_byThoseThatStay_22 rfl rfl rfl ?_
          refine J_get (pc := 23) (k := 2) dX8_byThoseThatStay_23 kC9 (by decide) ff_X8_17 h19_29 rfl ?_
          refine J_callV0 (pc := 26) (M := mX8_byThoseThatStay) (as := [.int (nI (c4 - 1)), .ref 21]) dX8_byThoseThatStay_26 fw_X8_rowOf fl_X8_78 fm_X8_rowOf fe_X8_rowOf h19_29 (by decide) rfl rfl rfl (c_X8_rowOf hs (d := d - 1) (Nat.le_trans (by decide) hdm) (w := w24) (n := n) (mv := mv) (rw := rw_14) (nx := nx1) (b := b1) (bt := bt1) (kn := kn1) (en := en1) (dn := dn) (rf := rf) (kk := kk) (th := th) ⟨h19_29, h20_29, h21_29, h22_29, hb_29, hbl_29, hb3_29⟩ hn1 hn2 gm gr27 hgnx1 (c4 - 1) (by first | assumption | omega) (kc := 0) (ks := 0)) hdp (st := []) (Nat.le_of_ble_eq_true rfl) rfl (kr_V fun w34 hw34 => ?_) kx_V
          obtain ⟨rw34, hR34, hFc34, hgrw34, hp34_0⟩ := hw34
          obtain ⟨h19_34, h20_34, h21_34, h22_34, hbb_34, hbl_34, hb3_34⟩ := hR34
          have hF34 := hF26.tr hFc34
          have hPr := Pn_row (by omega) hp34_0
          refine J_iconst (pc := 29) (v := nI 1) dX8_byThoseThatStay_29 (by decide) ?_
          refine J_istore (pc := 30) dX8_byThoseThatStay_30 (by decide) rfl ?_
          show J X mX8_byThoseThatStay d (kc - 13) (ks - 2054) 32 [some (.ref 19), some (.int (nI s)), some (.int c), some (.int z3), some (.int (nI (c4 - 1))), some (.int (nI 1)), none] [] w34 _
          refine J_aload_n (pc := 32) dX8_byThoseThatStay_32 rfl rfl rfl ?_
          refine J_aload_n (pc := 33) dX8_byThoseThatStay_33 rfl rfl rfl ?_
          refine J_get (pc := 34) (k := 2) dX8_byThoseThatStay_34 kC9 (by decide) ff_X8_17 h19_34 rfl ?_
          refine J_iconst (pc := 37) (v := nI 0) dX8_byThoseThatStay_37 (by decide) ?_
          refine J_callV0 (pc := 38) (M := mX8_byThoseThatStay) (as := [.ref 21, .int (nI 0)]) dX8_byThoseThatStay_38 fw_X8_ringsOf fl_X8_203 fm_X8_ringsOf fe_X8_ringsOf h19_34 (by decide) rfl rfl rfl (c_X8_ringsOf_at21 hs (d := d - 1) (Nat.le_trans (by decide) hdm) (w := w34) (n := n) (mv := mv) (rw := rw34) (nx := nx1) (b := b1) (bt := bt1) (kn := kn1) (en := en1) (dn := dn) (rf := rf) (kk := kk) (th := th) ⟨h19_34, h20_34, h21_34, h22_34, hbb_34, hbl_34, hb3_34⟩ hn1 hn2 gm hgrw34 hgnx1 0 (by first | assumption | omega) (by exact Pn_z hPr) (kc := 0) (ks := 0)) hdp (st := []) (Nat.le_of_ble_eq_true rfl) rfl (kr_P fun v35 hv35 => ?_) kx_I
          obtain ⟨k35, rfl, hk35⟩ := hv35
          refine J_istore (pc := 41) dX8_byThoseThatStay_41 (by decide) rfl ?_
          show J X mX8_byThoseThatStay d (kc - 13) (ks - 2054) 43 [some (.ref 19), some (.int (nI s)), some (.int c), some (.int z3), some (.int (nI (c4 - 1))), some (.int (nI 1)), some (.int (nI k35))] [] w34 _
          have lp43_36 : ∀ (fuel : Nat) (z5 : Int32) (c6 : Nat), (c6 ≤ 7) → (c6 < fuel) → J X mX8_byThoseThatStay d (kc - 13) (ks - 2054) 43 [some (.ref 19), some (.int (nI s)), some (.int c), some (.int z3), some (.int (nI (c4 - 1))), some (.int z5), some (.int (nI c6))] [] w34 (pI (fun _ => True) (fun w' => ∃ (rw' : Nat → Nat), ∃ (nx' : Nat → Nat), ∃ (b' : Nat), ∃ (bt' : List Int32), ∃ (kn' : Int32), ∃ (en' : Int32), RM n mv rw' nx' b' bt' kn' en' dn rf kk th w' ∧ FR b b' w w' ∧ (∀ i, rw' i < 7) ∧ (∀ i, nx' i < 7) ∧ kn' = nI s ∧ BX n mv s bt')) := by
            intro fuellp43_36
            induction fuellp43_36 with
            | zero => intros; omega
            | succ fuellp43_36 ihlp43_36 =>
              intro z5 c6 hv43_0 hf37
              refine J_iload (pc := 43) dX8_byThoseThatStay_43 rfl ?_
              refine J_if_leN (pc := 45) (tgt := 60) dX8_byThoseThatStay_45 (by decide) (by omega) (fun ht38 => ?_) (fun hf39 => ?_)
              · refine J_iload_n (pc := 60) dX8_byThoseThatStay_60 rfl rfl ?_
                refine J_iload (pc := 61) dX8_byThoseThatStay_61 rfl ?_
                refine J_iadd (pc := 63) dX8_byThoseThatStay_63 (J_absI fun x40 => ?_)
                refine J_istore_n (pc := 64) dX8_byThoseThatStay_64 rfl (by decide) rfl ?_
                show J X mX8_byThoseThatStay d (kc - 13) (ks - 2054) 65 [some (.ref 19), some (.int (nI s)), some (.int c), some (.int x40), some (.int (nI (c4 - 1))), some (.int z5), some (.int (nI c6))] [] w34 _
                refine J_aload_n (pc := 65) dX8_byThoseThatStay_65 rfl rfl rfl ?_
                refine J_iload (pc := 66) dX8_byThoseThatStay_66 rfl ?_
                refine J_iconst (pc := 68) (v := nI 1) dX8_byThoseThatStay_68 (by decide) ?_
                refine J_iaddN (pc := 69) dX8_byThoseThatStay_69 ?_
                refine J_callV0 (pc := 70) (M := mX8_byThoseThatStay) (as := [.int (nI ((c4 - 1) + 1))]) dX8_byThoseThatStay_70 fw_X8_from fl_X8_137 fm_X8_from fe_X8_from h19_34 (by decide) rfl rfl rfl (c_X8_from hs (d := d - 1) (Nat.le_trans (by decide) hdm) (w := w34) (n := n) (mv := mv) (rw := rw34) (nx := nx1) (b := b1) (bt := bt1) (kn := kn1) (en := en1) (dn := dn) (rf := rf) (kk := kk) (th := th) ⟨h19_34, h20_34, h21_34, h22_34, hbb_34, hbl_34, hb3_34⟩ hn1 hn2 gm hgrw34 hgnx1 ((c4 - 1) + 1) (by first | assumption | omega) (kc := 0) (ks := 0)) hdp (st := []) (Nat.le_of_ble_eq_true rfl) rfl (kr_P fun v41 hv41 => ?_) kx_I
                rcases hv41 with ⟨rfl, hk41_0⟩ | ⟨q41, rfl, hk41_0, hk41_1, hk41_2, hk41_3⟩
                · refine J_istore (pc := 73) dX8_byThoseThatStay_73 (by decide) rfl ?_
                  show J X mX8_byThoseThatStay d (kc - 13) (ks - 2054) 75 [some (.ref 19), some (.int (nI s)), some (.int c), some (.int x40), some (.int (-1)), some (.int z5), some (.int (nI c6))] [] w34 _
                  refine J_goto (pc := 75) (tgt := 14) dX8_byThoseThatStay_75 (by decide) ?_
                  exact J_sub (L' := [some (.ref 19), some (.int (nI s)), some (.int c), some (.int x40), some (.int (nI 0 + Int32.ofInt (-1))), none, none]) ⟨rfl, ⟨rfl, ⟨rfl, ⟨rfl, ⟨(congrArg (fun z => some (Value.int z)) (by decide : (-1 : Int32) = nI 0 + Int32.ofInt (-1))), trivial⟩⟩⟩⟩⟩ (ihlp14_23 w34 rw34 x40 0 ⟨h19_34, h20_34, h21_34, h22_34, hbb_34, hbl_34, hb3_34⟩ hF34 hgrw34 (by first | assumption | omega) (by exact mu_dec (by assumption) (by omega) (by omega) (by omega)))
                · refine J_istore (pc := 73) dX8_byThoseThatStay_73 (by decide) rfl ?_
                  show J X mX8_byThoseThatStay d (kc - 13) (ks - 2054) 75 [some (.ref 19), some (.int (nI s)), some (.int c), some (.int x40), some (.int (nI q41)), some (.int z5), some (.int (nI c6))] [] w34 _
                  refine J_goto (pc := 75) (tgt := 14) dX8_byThoseThatStay_75 (by decide) ?_
                  exact J_sub (L' := [some (.ref 19), some (.int (nI s)), some (.int c), some (.int x40), some (.int (nI (q41 + 1) + Int32.ofInt (-1))), none, none]) ⟨rfl, ⟨rfl, ⟨rfl, ⟨rfl, ⟨(congrArg (fun z => some (Value.int z)) (nI_n1 q41)), trivial⟩⟩⟩⟩⟩ (ihlp14_23 w34 rw34 x40 (q41 + 1) ⟨h19_34, h20_34, h21_34, h22_34, hbb_34, hbl_34, hb3_34⟩ hF34 hgrw34 (by first | assumption | omega) (by exact mu_dec (by assumption) (by omega) (by omega) (by omega)))
              · refine J_iload (pc := 48) dX8_byThoseThatStay_48 rfl ?_
                refine J_iload_n (pc := 50) dX8_byThoseThatStay_50 rfl rfl ?_
                refine J_imul (pc := 51) dX8_byThoseThatStay_51 (J_absI fun x42 => ?_)
                refine J_istore (pc := 52) dX8_byThoseThatStay_52 (by decide) rfl ?_
                show J X mX8_byThoseThatStay d (kc - 13) (ks - 2054) 54 [some (.ref 19), some (.int (nI s)), some (.int c), some (.int z3), some (.int (nI (c4 - 1))), some (.int x42), some (.int (nI c6))] [] w34 _
                refine J_iincM (pc := 54) dX8_byThoseThatStay_54 rfl (by omega) (by decide) rfl ?_
                show J X mX8_byThoseThatStay d (kc - 13) (ks - 2054) 57 [some (.ref 19), some (.int (nI s)), some (.int c), some (.int z3), some (.int (nI (c4 - 1))), some (.int x42), some (.int (nI (c6 - 1)))] [] w34 _
                refine J_goto (pc := 57) (tgt := 43) dX8_byThoseThatStay_57 (by decide) ?_
                exact J_sub (L' := [some (.ref 19), some (.int (nI s)), some (.int c), some (.int z3), some (.int (nI (c4 - 1))), some (.int x42), some (.int (nI (c6 - 1)))]) ⟨rfl, ⟨rfl, ⟨rfl, ⟨rfl, ⟨rfl, ⟨rfl, ⟨rfl, trivial⟩⟩⟩⟩⟩⟩⟩ (ihlp43_36 x42 (c6 - 1) (by first | assumption | omega) (by omega))
          exact J_sub (L' := [some (.ref 19), some (.int (nI s)), some (.int c), some (.int z3), some (.int (nI (c4 - 1))), some (.int (nI 1)), some (.int (nI k35))]) ⟨rfl, ⟨rfl, ⟨rfl, ⟨rfl, ⟨rfl, ⟨rfl, ⟨rfl, trivial⟩⟩⟩⟩⟩⟩⟩ (lp43_36 _ (nI 1) k35 (by first | assumption | omega) (Nat.lt_succ_self _))
    exact J_sub (L' := [some (.ref 19), some (.int (nI s)), some (.int c), some (.int (nI 0)), some (.int (nI (q2 + 1) + Int32.ofInt (-1))), none, none]) ⟨rfl, ⟨rfl, ⟨rfl, ⟨rfl, ⟨(congrArg (fun z => some (Value.int z)) (nI_n1 q2)), trivial⟩⟩⟩⟩⟩ (lp14_23 _ w1 rw1 (nI 0) (q2 + 1) ⟨h19_1, h20_1, h21_1, h22_1, hbb_1, hbl_1, hb3_1⟩ hF1 hgrw1 (by first | assumption | omega) (Nat.lt_succ_self _))
end
