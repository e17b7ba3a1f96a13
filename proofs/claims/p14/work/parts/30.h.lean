/-! the law's loop -/
theorem df_X6 {X : jX} : ∀ j, j < 9 → defaultValue (tyX6 j) = vp_V (([.null, .null, .null, .null, .null, .int (nI 0), .int (nI 0), .int (nI 0), .int (nI 0)] : List Value).map (jT X)) j := by
  intro j hj
  match j with
  | 0 => rfl
  | 1 => rfl
  | 2 => rfl
  | 3 => rfl
  | 4 => rfl
  | 5 => rfl
  | 6 => rfl
  | 7 => rfl
  | 8 => rfl
  | j + 9 => omega
theorem df_X7 {X : jX} : ∀ j, j < 2 → defaultValue (tyX7 j) = vp_V (([.long 0, .null] : List Value).map (jT X)) j := by
  intro j hj
  match j with
  | 0 => rfl
  | 1 => rfl
  | j + 2 => omega
theorem df_X8 {X : jX} : ∀ j, j < 11 → defaultValue (tyX8 j) = vp_V (([.int (nI 0), .null, .null, .null, .null, .int (nI 0), .int (nI 0), .int (nI 0), .int (nI 0), .int (nI 0), .int (nI 0)] : List Value).map (jT X)) j := by
  intro j hj
  match j with
  | 0 => rfl
  | 1 => rfl
  | 2 => rfl
  | 3 => rfl
  | 4 => rfl
  | 5 => rfl
  | 6 => rfl
  | 7 => rfl
  | 8 => rfl
  | 9 => rfl
  | 10 => rfl
  | j + 11 => omega
set_option maxRecDepth 100000 in
set_option maxHeartbeats 4000000 in
theorem s_at {X : jX} (hs : X.1.stackTraces = false) (hXO : XO X) {xs : List Int32} (hX0 : X.2.2.2.2.2[0]? = some (.inl (0, xs))) (hX1 : xs.length ≤ 320) {d : Nat} (hd : 45 ≤ d) {o : Nat} {S : StX} {w : List jC} (hI : LI o S S w) {i j : Nat} (hi : i + 5 ≤ xs.length) (hj : j < 64) {kc ks : Nat} (hkc : 700 ≤ kc) (hks : 40000 ≤ ks) {Q : jQ} (ih : ∀ (S' : StX) (w' : List jC), LI o S' S' w' → J X mL_law d (kc - 700) (ks - 40000) 2025 [some (.retAddr 0), some (.ref 0), some (.ref 19), some (.ref o), some (.int (nI i)), none, none] [] w' Q) : J X mL_law d kc ks 43 [some (.retAddr 0), some (.ref 0), some (.ref 19), some (.ref o), some (.int (nI i)), none, none] [.int (nI j)] w Q := by
  match j, hj with
  | 0, _ => exact J_tableIn (pc := 43) (off := 197) (tgt := 240) dL_law_43 (by decide) (by decide) (by decide) (by decide) (s_0 hs hXO hX0 hX1 hd hI hi hkc hks ih)
  | 1, _ => exact J_tableIn (pc := 43) (off := 225) (tgt := 268) dL_law_43 (by decide) (by decide) (by decide) (by decide) (s_1 hs hXO hX0 hX1 hd hI hi hkc hks ih)
  | 2, _ => exact J_tableIn (pc := 43) (off := 265) (tgt := 308) dL_law_43 (by decide) (by decide) (by decide) (by decide) (s_2 hs hXO hX0 hX1 hd hI hi hkc hks ih)
  | 3, _ => exact J_tableIn (pc := 43) (off := 317) (tgt := 360) dL_law_43 (by decide) (by decide) (by decide) (by decide) (s_3 hs hXO hX0 hX1 hd hI hi hkc hks ih)
  | 4, _ => exact J_tableIn (pc := 43) (off := 381) (tgt := 424) dL_law_43 (by decide) (by decide) (by decide) (by decide) (s_4 hs hXO hX0 hX1 hd hI hi hkc hks ih)
  | 5, _ => exact J_tableIn (pc := 43) (off := 421) (tgt := 464) dL_law_43 (by decide) (by decide) (by decide) (by decide) (s_5 hs hXO hX0 hX1 hd hI hi hkc hks ih)
  | 6, _ => exact J_tableIn (pc := 43) (off := 449) (tgt := 492) dL_law_43 (by decide) (by decide) (by decide) (by decide) (s_6 hs hXO hX0 hX1 hd hI hi hkc hks ih)
  | 7, _ => exact J_tableIn (pc := 43) (off := 489) (tgt := 532) dL_law_43 (by decide) (by decide) (by decide) (by decide) (s_7 hs hXO hX0 hX1 hd hI hi hkc hks ih)
  | 8, _ => exact J_tableIn (pc := 43) (off := 529) (tgt := 572) dL_law_43 (by decide) (by decide) (by decide) (by decide) (s_8 hs hXO hX0 hX1 hd hI hi hkc hks ih)
  | 9, _ => exact J_tableIn (pc := 43) (off := 581) (tgt := 624) dL_law_43 (by decide) (by decide) (by decide) (by decide) (s_9 hs hXO hX0 hX1 hd hI hi hkc hks ih)
  | 10, _ => exact J_tableIn (pc := 43) (off := 621) (tgt := 664) dL_law_43 (by decide) (by decide) (by decide) (by decide) (s_10 hs hXO hX0 hX1 hd hI hi hkc hks ih)
  | 11, _ => exact J_tableIn (pc := 43) (off := 673) (tgt := 716) dL_law_43 (by decide) (by decide) (by decide) (by decide) (s_11 hs hXO hX0 hX1 hd hI hi hkc hks ih)
  | 12, _ => exact J_tableIn (pc := 43) (off := 725) (tgt := 768) dL_law_43 (by decide) (by decide) (by decide) (by decide) (s_12 hs hXO hX0 hX1 hd hI hi hkc hks ih)
  | 13, _ => exact J_tableIn (pc := 43) (off := 806) (tgt := 849) dL_law_43 (by decide) (by decide) (by decide) (by decide) (s_13 hs hXO hX0 hX1 hd hI hi hkc hks ih)
  | 14, _ => exact J_tableIn (pc := 43) (off := 870) (tgt := 913) dL_law_43 (by decide) (by decide) (by decide) (by decide) (s_14 hs hXO hX0 hX1 hd hI hi hkc hks ih)
  | 15, _ => exact J_tableIn (pc := 43) (off := 883) (tgt := 926) dL_law_43 (by decide) (by decide) (by decide) (by decide) (s_15 hs hXO hX0 hX1 hd hI hi hkc hks ih)
  | 16, _ => exact J_tableIn (pc := 43) (off := 911) (tgt := 954) dL_law_43 (by decide) (by decide) (by decide) (by decide) (s_16 hs hXO hX0 hX1 hd hI hi hkc hks ih)
  | 17, _ => exact J_tableIn (pc := 43) (off := 951) (tgt := 994) dL_law_43 (by decide) (by decide) (by decide) (by decide) (s_17 hs hXO hX0 hX1 hd hI hi hkc hks ih)
  | 18, _ => exact J_tableIn (pc := 43) (off := 979) (tgt := 1022) dL_law_43 (by decide) (by decide) (by decide) (by decide) (s_18 hs hXO hX0 hX1 hd hI hi hkc hks ih)
  | 19, _ => exact J_tableIn (pc := 43) (off := 1007) (tgt := 1050) dL_law_43 (by decide) (by decide) (by decide) (by decide) (s_19 hs hXO hX0 hX1 hd hI hi hkc hks ih)
  | 20, _ => exact J_tableIn (pc := 43) (off := 1047) (tgt := 1090) dL_law_43 (by decide) (by decide) (by decide) (by decide) (s_20 hs hXO hX0 hX1 hd hI hi hkc hks ih)
  | 21, _ => exact J_tableIn (pc := 43) (off := 1075) (tgt := 1118) dL_law_43 (by decide) (by decide) (by decide) (by decide) (s_21 hs hXO hX0 hX1 hd hI hi hkc hks ih)
  | 22, _ => exact J_tableIn (pc := 43) (off := 1103) (tgt := 1146) dL_law_43 (by decide) (by decide) (by decide) (by decide) (s_22 hs hXO hX0 hX1 hd hI hi hkc hks ih)
  | 23, _ => exact J_tableIn (pc := 43) (off := 1131) (tgt := 1174) dL_law_43 (by decide) (by decide) (by decide) (by decide) (s_23 hs hXO hX0 hX1 hd hI hi hkc hks ih)
  | 24, _ => exact J_tableIn (pc := 43) (off := 1171) (tgt := 1214) dL_law_43 (by decide) (by decide) (by decide) (by decide) (s_24 hs hXO hX0 hX1 hd hI hi hkc hks ih)
  | 25, _ => exact J_tableIn (pc := 43) (off := 1211) (tgt := 1254) dL_law_43 (by decide) (by decide) (by decide) (by decide) (s_25 hs hXO hX0 hX1 hd hI hi hkc hks ih)
  | 26, _ => exact J_tableIn (pc := 43) (off := 1251) (tgt := 1294) dL_law_43 (by decide) (by decide) (by decide) (by decide) (s_26 hs hXO hX0 hX1 hd hI hi hkc hks ih)
  | 27, _ => exact J_tableIn (pc := 43) (off := 1303) (tgt := 1346) dL_law_43 (by decide) (by decide) (by decide) (by decide) (s_27 hs hXO hX0 hX1 hd hI hi hkc hks ih)
  | 28, _ => exact J_tableIn (pc := 43) (off := 1355) (tgt := 1398) dL_law_43 (by decide) (by decide) (by decide) (by decide) (s_28 hs hXO hX0 hX1 hd hI hi hkc hks ih)
  | 29, _ => exact J_tableIn (pc := 43) (off := 1407) (tgt := 1450) dL_law_43 (by decide) (by decide) (by decide) (by decide) (s_29 hs hXO hX0 hX1 hd hI hi hkc hks ih)
  | 30, _ => exact J_tableIn (pc := 43) (off := 1447) (tgt := 1490) dL_law_43 (by decide) (by decide) (by decide) (by decide) (s_30 hs hXO hX0 hX1 hd hI hi hkc hks ih)
  | 31, _ => exact J_tableIn (pc := 43) (off := 1487) (tgt := 1530) dL_law_43 (by decide) (by decide) (by decide) (by decide) (s_31 hs hXO hX0 hX1 hd hI hi hkc hks ih)
  | 32, _ => exact J_tableIn (pc := 43) (off := 1515) (tgt := 1558) dL_law_43 (by decide) (by decide) (by decide) (by decide) (s_32 hs hXO hX0 hX1 hd hI hi hkc hks ih)
  | 33, _ => exact J_tableIn (pc := 43) (off := 1555) (tgt := 1598) dL_law_43 (by decide) (by decide) (by decide) (by decide) (s_33 hs hXO hX0 hX1 hd hI hi hkc hks ih)
  | 34, _ => exact J_tableIn (pc := 43) (off := 1583) (tgt := 1626) dL_law_43 (by decide) (by decide) (by decide) (by decide) (s_34 hs hXO hX0 hX1 hd hI hi hkc hks ih)
  | 35, _ => exact J_tableIn (pc := 43) (off := 1635) (tgt := 1678) dL_law_43 (by decide) (by decide) (by decide) (by decide) (s_35 hs hXO hX0 hX1 hd hI hi hkc hks ih)
  | 36, _ => exact J_tableIn (pc := 43) (off := 1675) (tgt := 1718) dL_law_43 (by decide) (by decide) (by decide) (by decide) (s_36 hs hXO hX0 hX1 hd hI hi hkc hks ih)
  | 37, _ => exact J_tableIn (pc := 43) (off := 1715) (tgt := 1758) dL_law_43 (by decide) (by decide) (by decide) (by decide) (s_37 hs hXO hX0 hX1 hd hI hi hkc hks ih)
  | 38, _ => exact J_tableIn (pc := 43) (off := 1755) (tgt := 1798) dL_law_43 (by decide) (by decide) (by decide) (by decide) (s_38 hs hXO hX0 hX1 hd hI hi hkc hks ih)
  | 39, _ => exact J_tableIn (pc := 43) (off := 1807) (tgt := 1850) dL_law_43 (by decide) (by decide) (by decide) (by decide) (s_39 hs hXO hX0 hX1 hd hI hi hkc hks ih)
  | 40, _ => exact J_tableIn (pc := 43) (off := 1859) (tgt := 1902) dL_law_43 (by decide) (by decide) (by decide) (by decide) (s_40 hs hXO hX0 hX1 hd hI hi hkc hks ih)
  | 41, _ => exact J_tableIn (pc := 43) (off := 1887) (tgt := 1930) dL_law_43 (by decide) (by decide) (by decide) (by decide) (s_41 hs hXO hX0 hX1 hd hI hi hkc hks ih)
  | 42, _ => exact J_tableIn (pc := 43) (off := 1915) (tgt := 1958) dL_law_43 (by decide) (by decide) (by decide) (by decide) (s_42 hs hXO hX0 hX1 hd hI hi hkc hks ih)
  | 43, _ => exact J_tableIn (pc := 43) (off := 1943) (tgt := 1986) dL_law_43 (by decide) (by decide) (by decide) (by decide) (s_43 hs hXO hX0 hX1 hd hI hi hkc hks ih)
  | 44, _ => exact J_tableIn (pc := 43) (off := 1956) (tgt := 1999) dL_law_43 (by decide) (by decide) (by decide) (by decide) (s_44 hs hXO hX0 hX1 hd hI hi hkc hks ih)
  | 45, _ => exact J_tableIn (pc := 43) (off := 1969) (tgt := 2012) dL_law_43 (by decide) (by decide) (by decide) (by decide) (s_45 hs hXO hX0 hX1 hd hI hi hkc hks ih)
  | j + 46, hj => exact J_tableOut (pc := 43) (tgt := 2025) dL_law_43 (Or.inr (by rw [nI_toInt (by omega)]; omega)) (by decide) ((ih _ _ hI).mono (by omega) (by omega) (fun _ _ h => h))
set_option maxRecDepth 100000 in
set_option maxHeartbeats 4000000 in
theorem s_loop {X : jX} {o : Nat} (hs : X.1.stackTraces = false) (hXO : XO X) {xs : List Int32} (hX0 : X.2.2.2.2.2[0]? = some (.inl (0, xs))) (hX1 : xs.length ≤ 320) {d : Nat} (hd : 45 ≤ d) {Q : jQ} (hQ : ∀ w' : List jC, Q (.inl (some (.int 1))) w') : ∀ (f : Nat) (S : StX) (w : List jC) (i kc ks : Nat), LI o S S w → i ≤ 400 → 330 - i ≤ 5 * f → f * 700 ≤ kc → f * 40000 ≤ ks → J X mL_law d kc ks 27 [some (.retAddr 0), some (.ref 0), some (.ref 19), some (.ref o), some (.int (nI i)), none, none] [] w Q := by
  intro f
  induction f with
  | zero =>
    intro S w i kc ks hI hi hf _ _
    refine J_iload (pc := 27) dL_law_27 rfl ?_
    refine J_aload_n (pc := 29) dL_law_29 rfl rfl rfl ?_
    refine J_alenO (pc := 30) (n := nI xs.length) dL_law_30 hX0 rfl ?_
    refine J_iconst (pc := 31) (v := nI 5) dL_law_31 (by decide) ?_
    refine J_isub (pc := 32) dL_law_32 ?_
    refine J_icmp_gt (pc := 33) (tgt := 2031) dL_law_33 (by decide) (fun _ => ?_) (fun hn => ?_)
    · refine J_iconst (pc := 2031) (v := nI 1) dL_law_2031 (by decide) ?_
      exact J_zret (pc := 2032) dL_law_2032 rfl (nar_b (by decide)) (hQ w)
    · have hi2 := law_i hX1 hi hn
      omega
  | succ f ih =>
    intro S w i kc ks hI hi hf hkc hks
    refine J_iload (pc := 27) dL_law_27 rfl ?_
    refine J_aload_n (pc := 29) dL_law_29 rfl rfl rfl ?_
    refine J_alenO (pc := 30) (n := nI xs.length) dL_law_30 hX0 rfl ?_
    refine J_iconst (pc := 31) (v := nI 5) dL_law_31 (by decide) ?_
    refine J_isub (pc := 32) dL_law_32 ?_
    refine J_icmp_gt (pc := 33) (tgt := 2031) dL_law_33 (by decide) (fun _ => ?_) (fun hn => ?_)
    · refine J_iconst (pc := 2031) (v := nI 1) dL_law_2031 (by decide) ?_
      exact J_zret (pc := 2032) dL_law_2032 rfl (nar_b (by decide)) (hQ w)
    · have hi2 := law_i hX1 hi hn
      refine J_aload_n (pc := 36) dL_law_36 rfl rfl rfl ?_
      refine J_iload (pc := 37) dL_law_37 rfl ?_
      refine J_ialdO (pc := 39) dL_law_39 hX0 (nI_in (by omega) (by omega)) (J_absI fun x => ?_)
      refine J_bipush (pc := 40) (v := nI 63) dL_law_40 (by decide) ?_
      refine J_iand (pc := 42) dL_law_42 (J_andE 6 63 (by decide) fun j hj => ?_)
      refine s_at hs hXO hX0 hX1 hd hI hi2 hj (by omega) (by omega) (fun S' w' hI' => ?_)
      refine J_iincN (pc := 2025) (b := 5) dL_law_2025 rfl (by decide) (by decide) rfl ?_
      show J X mL_law d _ _ 2028 [some (.retAddr 0), some (.ref 0), some (.ref 19), some (.ref o), some (.int (nI (i + 5))), none, none] [] w' Q
      refine J_goto (pc := 2028) (tgt := 27) dL_law_2028 (by decide) ?_
      exact ih S' w' (i + 5) _ _ hI' (by omega) (by omega) (by omega) (by omega)
set_option maxRecDepth 100000 in
set_option maxHeartbeats 4000000 in
theorem s_start {X : jX} (hs : X.1.stackTraces = false) (hXO : XO X) {xs : List Int32} (hX0 : X.2.2.2.2.2[0]? = some (.inl (0, xs))) (hX1 : xs.length ≤ 320) {d : Nat} (hd : 45 ≤ d) {kc ks : Nat} (hkc : 600000 ≤ kc) (hks : 7000000 ≤ ks) {Q : jQ} (hQ : ∀ w' : List jC, Q (.inl (some (.int 1))) w') : J X mL_law d kc ks 0 [some (.retAddr 0), none, none, none, none, none, none] [] [] Q := by
  refine J_newO (pc := 0) (M := mL_law) (fs := [.null, .null, .null, .null, .null, .int (nI 0), .int (nI 0), .int (nI 0), .int (nI 0)]) dL_law_0 kC7 fc_L_8 fi_X6 fz_X6 df_X6 (by omega) (by omega) (fun a w1 ha hln1 hc1 _ => ?_)
  obtain rfl : a = 0 := ha
  refine J_dup (pc := 3) dL_law_3 rfl ?_
  refine J_callI (pc := 4) (M := mL_law) (as := []) dL_law_4 fw_X6_init fl_L_158 fm_X6_init rfl rfl rfl (c_X6_init hs (d := d - 1) (by omega) (w := w1) hln1 hc1 (kc := 18) (ks := 7664) (Nat.le_refl _) (Nat.le_refl _)) (by omega) (by omega) (by omega) (st := [.ref 0]) (Nat.le_of_ble_eq_true rfl) rfl (kr_V fun w2 hw2 => ?_) kx_V
  obtain ⟨hln2, hS2, hm2⟩ := hw2
  refine J_astore_n (pc := 7) dL_law_7 rfl (by decide) rfl rfl ?_
  show J X mL_law d _ _ 8 [some (.retAddr 0), some (.ref 0), none, none, none, none, none] [] w2 Q
  refine J_newO (pc := 8) (M := mL_law) (fs := [.int (nI 0), .null, .null, .null, .null, .int (nI 0), .int (nI 0), .int (nI 0), .int (nI 0), .int (nI 0), .int (nI 0)]) dL_law_8 kC9 fc_L_159 fi_X8 fz_X8 df_X8 (by omega) (by omega) (fun a w3 ha hln3 hc3 hne3 => ?_)
  obtain rfl : a = 19 := by omega
  have hS3 := hS2.gr (fun i hi => hne3 i (by omega))
  refine J_dup (pc := 11) dL_law_11 rfl ?_
  refine J_callI (pc := 12) (M := mL_law) (as := []) dL_law_12 fw_X8_init fl_L_161 fm_X8_init rfl rfl rfl (c_X8_init hs (d := d - 1) (by omega) (w := w3) hln3 hc3 (kc := 4) (ks := 214) (Nat.le_refl _) (Nat.le_refl _)) (by omega) (by omega) (by omega) (st := [.ref 19]) (Nat.le_of_ble_eq_true rfl) rfl (kr_V fun w4 hw4 => ?_) kx_V
  obtain ⟨mv, hR4, gm, hP4, hid4, hne4⟩ := hw4
  have hS4 := hS3.keep (fun i hi => hne4 i hi)
  refine J_astore_n (pc := 15) dL_law_15 rfl (by decide) rfl rfl ?_
  show J X mL_law d _ _ 16 [some (.retAddr 0), some (.ref 0), some (.ref 19), none, none, none, none] [] w4 Q
  refine J_newO (pc := 16) (M := mL_law) (fs := [.long 0, .null]) dL_law_16 kC8 fc_L_14 fi_X7 fz_X7 df_X7 (by omega) (by omega) (fun a w5 ha hln5 hc5 hne5 => ?_)
  have hg4 := gl hR4.2.2.2.2.1
  have ho : 24 ≤ a := by omega
  have hS5 := hS4.gr (fun i hi => hne5 i (by omega))
  have hR5 : RM 4 mv (fun _ => 0) (fun _ => 0) 23 (List.replicate 158 0) (-1) (nI 0) (nI 0) (nI 0) (nI 0) (nI 0) w5 := ⟨(hne5 19 (by omega)).trans hR4.1, (hne5 20 (by omega)).trans hR4.2.1, (hne5 21 (by omega)).trans hR4.2.2.1, (hne5 22 (by omega)).trans hR4.2.2.2.1, (hne5 23 (by omega)).trans hR4.2.2.2.2.1, hR4.2.2.2.2.2⟩
  refine J_dup (pc := 19) dL_law_19 rfl ?_
  refine J_callIN (pc := 20) (M := mL_law) (as := []) dL_law_20 fw_X7_init fl_L_162 fm_X7_init rfl rfl rfl (c_X7_init hs (d := d - 1) (by omega) (w := w5) a (kc := 0) (ks := 0)) (by omega) (Nat.zero_le _) (Nat.zero_le _) (st := [.ref a]) (Nat.le_of_ble_eq_true rfl) rfl (kr_V fun w6 hw6 => ?_) kx_V
  obtain rfl := hw6.symm
  refine J_astore_n (pc := 23) dL_law_23 rfl (by decide) rfl rfl ?_
  refine J_iconst (pc := 24) (v := nI 0) dL_law_24 (by decide) ?_
  refine J_istore (pc := 25) dL_law_25 (by decide) rfl ?_
  show J X mL_law d _ _ 27 [some (.retAddr 0), some (.ref 0), some (.ref 19), some (.ref a), some (.int (nI 0)), none, none] [] w5 Q
  have hm5 : w5[1]? = some (aF 6 (fun _ => 1754760)) := (hne5 1 (by omega)).trans ((hne4 1 (by decide)).trans ((hne3 1 (by omega)).trans hm2))
  obtain ⟨_, hc0, rfl⟩ := hS5 0 _ rfl
  exact s_loop hs hXO hX0 hX1 hd hQ 66 (4, nI 0, nI 0, nI 0, fun _ => 1754760) w5 0 _ _ ⟨nI 0, ⟨by decide, by decide, fun c _ => (by show Mv 4 1754760; rw [e7_M (n := 4) (by decide)]; exact eM_Mv (by decide)), ⟨hc0, hm5⟩, hS5⟩, ⟨mv, _, _, 23, _, _, _, hR5, by decide, by decide, gm, fun _ => (by decide : (0 : Nat) < 7), fun _ => (by decide : (0 : Nat) < 7), hP4, Or.inl rfl, RL_points (by decide) hid4, by omega⟩, ⟨ho, _, hc5, rfl⟩⟩ (by decide) (by decide) (by omega) (by omega)
