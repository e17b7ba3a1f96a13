/-! exact contracts of the class: espec10 -/
def WM (ml : List Int32) (tg : Nat → Nat) (mn : Nat) (wn : Nat) (w : List jC) : Prop := w[8]? = some (.inr (6, [.ref 9, .int (nI wn)])) ∧ w[9]? = some (.inr (3, [.ref 10, .ref 11, .int (nI mn)])) ∧ w[10]? = some (aF 5040 tg) ∧ w[11]? = some (.inl (0, ml)) ∧ ml.length = 158
def TM (po : Nat → Nat) (tn : Nat) (w : List jC) : Prop := w[12]? = some (.inr (5, [.ref 13, .int (nI tn)])) ∧ w[13]? = some (aF 8 po)
def QM (ql : List Int32) (qt : Nat → Nat) (pw : Nat → Nat) (qm : Nat) (pc : Nat) (qn : Nat) (w : List jC) : Prop := w[14]? = some (.inr (4, [.ref 15, .ref 18, .int (nI pc), .int (nI qn)])) ∧ w[15]? = some (.inr (3, [.ref 16, .ref 17, .int (nI qm)])) ∧ w[16]? = some (aF 2187 qt) ∧ w[17]? = some (.inl (0, ql)) ∧ w[18]? = some (aF 8 pw) ∧ ql.length = 69
theorem pow_dn {y co c : Nat} (h : 1 ≤ c) : y * co * co ^ (c - 1) = y * co ^ c := by
  obtain ⟨k, rfl⟩ : ∃ k, c = k + 1 := ⟨c - 1, by omega⟩
  rw [Nat.add_sub_cancel, Nat.pow_succ, Nat.mul_assoc, Nat.mul_comm co]
theorem mean_31 {tg : Nat → Nat} {co mn wn : Nat} (h0 : mn ≤ 5040) (h2 : wn ≤ 7) (h4 : co ≤ 3) : sm (fun i => co ^ hr (tg i) wn) mn < 2 ^ 31 := by
  have hb := sm_bd (f := fun i => co ^ hr (tg i) wn) (B := 2187) mn (fun i _ => by
    have h1 := hr_le (tg i) wn
    have h3 : co ^ hr (tg i) wn ≤ 3 ^ hr (tg i) wn := Nat.pow_le_pow_left h4 _
    have h5 : 3 ^ hr (tg i) wn ≤ 3 ^ 7 := Nat.pow_le_pow_right (by decide) (by omega)
    have h6 : (3 : Nat) ^ 7 = 2187 := by decide
    omega)
  omega
set_option maxRecDepth 100000 in
set_option maxHeartbeats 4000000 in
theorem c_J7_fill_53178_atl {X : jX} (hs : X.1.stackTraces = false) {d : Nat} {w : List jC} (A : Nat) {xs : List Int32} {K : Nat} (hw : w[A]? = some (.inl (0, xs))) (hz : xs.length = K) (hK : K < 2 ^ 31) {kc ks : Nat} : jMet X mJ7_fill_53178 d kc ks [.ref A, .int (nI 0)] w (pV (fun w' => w'.length = w.length ∧ w'[A]? = some (.inl (0, List.replicate K 0)) ∧ ∀ i, i ≠ A → w'[i]? = w[i]?)) := by
  refine jMet_of hs (by decide +kernel) (Nat.le_of_ble_eq_true rfl) (L := [some (.ref A), some (.int (nI 0)), none, none]) rfl ?_
  refine J_iconst (pc := 0) (v := nI 0) dJ7_fill_53178_0 (by decide) ?_
  refine J_istore_n (pc := 1) dJ7_fill_53178_1 rfl (by decide) rfl ?_
  show J X mJ7_fill_53178 d kc ks 2 [some (.ref A), some (.int (nI 0)), some (.int (nI 0)), none] [] w _
  refine J_aload_n (pc := 2) dJ7_fill_53178_2 rfl rfl rfl ?_
  refine J_alen (pc := 3) (n := nI K) dJ7_fill_53178_3 hw (by decide) (by rw [hz]; rfl) ?_
  refine J_istore_n (pc := 4) dJ7_fill_53178_4 rfl (by decide) rfl ?_
  show J X mJ7_fill_53178 d kc ks 5 [some (.ref A), some (.int (nI 0)), some (.int (nI 0)), some (.int (nI K))] [] w _
  have lp : ∀ (fuel : Nat) (w3 : List jC) (g : List Int32) (c2 : Nat), w3.length = w.length → w3[A]? = some (.inl (0, g)) → g.length = K → (∀ i, i < c2 → g[i]? = some 0) → (∀ i, i ≠ A → w3[i]? = w[i]?) → c2 ≤ K → K - c2 < fuel → J X mJ7_fill_53178 d kc ks 5 [some (.ref A), some (.int (nI 0)), some (.int (nI c2)), some (.int (nI K))] [] w3 (pV (fun w' => w'.length = w.length ∧ w'[A]? = some (.inl (0, List.replicate K 0)) ∧ ∀ i, i ≠ A → w'[i]? = w[i]?)) := by
    intro fuel
    induction fuel with
    | zero => intros; omega
    | succ fuel ih =>
      intro w3 g c2 h1 h2 hg h3 h4 h5 h6
      refine J_iload_n (pc := 5) dJ7_fill_53178_5 rfl rfl ?_
      refine J_iload_n (pc := 6) dJ7_fill_53178_6 rfl rfl ?_
      refine J_icmp_geN (pc := 7) (tgt := 20) dJ7_fill_53178_7 (by decide) (by omega) (by omega) (fun ht => ?_) (fun hf => ?_)
      · have e : g = List.replicate K 0 := List.ext_getElem? (fun i => by
          by_cases hi : i < K
          · rw [h3 i (by omega), List.getElem?_replicate, if_pos hi]
          · rw [List.getElem?_eq_none (by omega), List.getElem?_replicate, if_neg hi])
        rw [e] at h2
        exact J_vret (pc := 20) dJ7_fill_53178_20 rfl ⟨h1, h2, h4⟩
      · refine J_aload_n (pc := 10) dJ7_fill_53178_10 rfl rfl rfl ?_
        refine J_iload_n (pc := 11) dJ7_fill_53178_11 rfl rfl ?_
        refine J_iload_n (pc := 12) dJ7_fill_53178_12 rfl rfl ?_
        refine J_iastW (pc := 13) dJ7_fill_53178_13 h2 (by rw [hg]; exact nI_in hf hK) (fun w4 hln hc hne => ?_)
        refine J_iincN (pc := 14) (b := 1) dJ7_fill_53178_14 rfl (by decide) (by decide) rfl ?_
        show J X mJ7_fill_53178 d kc ks 17 [some (.ref A), some (.int (nI 0)), some (.int (nI (c2 + 1))), some (.int (nI K))] [] w4 _
        refine J_goto (pc := 17) (tgt := 5) dJ7_fill_53178_17 (by decide) ?_
        rw [nI_clamp (by omega)] at hc
        refine ih w4 _ (c2 + 1) (hln.trans h1) hc (by rw [List.length_set]; exact hg) (fun i hi => ?_) (fun i hi => (hne i hi).trans (h4 i hi)) (by omega) (by omega)
        by_cases e : i = c2
        · rw [e, List.getElem?_set_self (by omega)]
          rfl
        · rw [List.getElem?_set_ne (fun q => e q.symm)]
          exact h3 i (by omega)
  exact lp (K + 1) w xs 0 rfl hw hz (fun i hi => absurd hi (Nat.not_lt_zero i)) (fun _ _ => rfl) (Nat.zero_le _) (by omega)
set_option maxRecDepth 100000 in
set_option maxHeartbeats 4000000 in
theorem c_X6_has_ati {X : jX} (hs : X.1.stackTraces = false) {d : Nat} (hd : 0 ≤ d) {w : List jC} (m : Int32) (s : Nat) (hy0 : s < 32) {kc ks : Nat} : jMet X mX6_has d kc ks [.int m, .int (nI s)] w (pI (fun v => (v = nI 0 ∧ ¬ ((m >>> (nI s &&& 31)) &&& nI 1) = nI 1) ∨ (v = nI 1 ∧ ((m >>> (nI s &&& 31)) &&& nI 1) = nI 1)) (fun w' => w' = w)) := by
  refine jMet_of hs (by decide +kernel) (Nat.le_of_ble_eq_true rfl) (L := [some (.int m), some (.int (nI s))]) rfl ?_
  refine J_iload_n (pc := 0) dX6_has_0 rfl rfl ?_
  refine J_iload_n (pc := 1) dX6_has_1 rfl rfl ?_
  refine J_ishr (pc := 2) dX6_has_2 ?_
  refine J_iconst (pc := 3) (v := nI 1) dX6_has_3 (by decide) ?_
  refine J_iand (pc := 4) dX6_has_4 ?_
  refine J_iconst (pc := 5) (v := nI 1) dX6_has_5 (by decide) ?_
  refine J_icmp_ne (pc := 6) (tgt := 13) dX6_has_6 (by decide) (fun ht1 => ?_) (fun hf2 => ?_)
  · refine J_iconst (pc := 13) (v := nI 0) dX6_has_13 (by decide) ?_
    exact J_zret (pc := 14) dX6_has_14 rfl (nar_b (by first | decide | omega)) ⟨Or.inl ⟨rfl, (by assumption)⟩, rfl⟩
  · refine J_iconst (pc := 9) (v := nI 1) dX6_has_9 (by decide) ?_
    refine J_goto (pc := 10) (tgt := 14) dX6_has_10 (by decide) ?_
    exact J_zret (pc := 14) dX6_has_14 rfl (nar_b (by first | decide | omega)) ⟨Or.inr (⟨rfl, (by assumption)⟩), rfl⟩
set_option maxRecDepth 100000 in
set_option maxHeartbeats 4000000 in
theorem c_X1_clear_at9x {X : jX} (hs : X.1.stackTraces = false) {d : Nat} (hd : 1 ≤ d) {ml : List Int32} {tg : Nat → Nat} {mn : Nat} {wn : Nat} {w : List jC} (hR : WM ml tg mn wn w) {kc ks : Nat} : jMet X mX1_clear d kc ks [.ref 9] w (pV (fun w' => WM (List.replicate 158 0) tg 0 wn w' ∧ FB 8 11 w w')) := by
  refine jMet_of hs (by decide +kernel) (Nat.le_of_ble_eq_true rfl) (L := [some (.ref 9)]) rfl ?_
  have hdm : 0 ≤ d - 1 := by omega
  have hdp : d - 1 + 1 ≤ d := by omega
  obtain ⟨h8, h9, h10, h11, hz11⟩ := hR
  have hF : FB 8 11 w w := FB.rf
  refine J_aload_n (pc := 0) dX1_clear_0 rfl rfl rfl ?_
  refine J_iconst (pc := 1) (v := nI 0) dX1_clear_1 (by decide) ?_
  refine J_putW (pc := 2) (k := 2) dX1_clear_2 kC3 (by decide) ff_X1_7 (Or.inl rfl) ⟨rfl, rfl⟩ h9 (by show 2 < 3; decide) (fun w1 hln1 hw1 hne1 => ?_)
  have h9_1 : w1[9]? = some (.inr (3, [.ref 10, .ref 11, .int (nI 0)])) := hw1
  have h8_1 := (hne1 8 (by decide)).trans h8
  have h10_1 := (hne1 10 (by decide)).trans h10
  have h11_1 := (hne1 11 (by decide)).trans h11
  have hF1 := hF.st hln1 hne1 (by decide)
  refine J_aload_n (pc := 5) dX1_clear_5 rfl rfl rfl ?_
  refine J_get (pc := 6) (k := 1) dX1_clear_6 kC3 (by decide) ff_X1_23 h9_1 rfl ?_
  refine J_iconst (pc := 9) (v := nI 0) dX1_clear_9 (by decide) ?_
  refine J_callS0 (pc := 10) (M := mX1_clear) (as := [.ref 11, .int (nI 0)]) dX1_clear_10 fw_J7_fill_53178 fl_X1_26 fs_J7_fill_53178 rfl (c_J7_fill_53178_atl hs (d := d - 1) (w := w1) 11 h11_1 hz11 (by decide) (kc := 0) (ks := 0)) (by omega) (st := []) (Nat.le_of_ble_eq_true rfl) rfl (kr_V fun w2 hw2 => ?_) kx_V
  obtain ⟨hln2, hc2, hne2⟩ := hw2
  have hz2 : (List.replicate 158 (0 : Int32)).length = 158 := List.length_replicate
  have h8_2 := (hne2 8 (by decide)).trans h8_1
  have h9_2 := (hne2 9 (by decide)).trans h9_1
  have h10_2 := (hne2 10 (by decide)).trans h10_1
  have hF2 := hF1.st hln2 hne2 (by decide)
  exact J_vret (pc := 13) dX1_clear_13 rfl (⟨⟨h8_2, h9_2, h10_2, hc2, hz2⟩, hF2⟩)
set_option maxRecDepth 100000 in
set_option maxHeartbeats 4000000 in
theorem c_X1_add_at9x {X : jX} (hs : X.1.stackTraces = false) {d : Nat} (hd : 1 ≤ d) {ml : List Int32} {tg : Nat → Nat} {mn : Nat} {wn : Nat} {w : List jC} (hR : WM ml tg mn wn w) (x : Nat) (k : Nat) (hy0 : k < 5040) (hy1 : mn < 5040 ∨ bitL ml k = true) (hy2 : mn ≤ 5040) {kc ks : Nat} : jMet X mX1_add d kc ks [.ref 9, .int (nI x), .int (nI k)] w (pI (fun v => (v = nI 0 ∧ bitL ml k = true) ∨ (v = nI 1 ∧ bitL ml k = false)) (fun w' => ∃ (ml' : List Int32), ∃ (tg' : Nat → Nat), ∃ (mn' : Nat), WM ml' tg' mn' wn w' ∧ FB 8 11 w w' ∧ (AP ml tg mn x k ml' tg' mn'))) := by
  refine jMet_of hs (by decide +kernel) (Nat.le_of_ble_eq_true rfl) (L := [some (.ref 9), some (.int (nI x)), some (.int (nI k)), none, none]) rfl ?_
  have hdm : 0 ≤ d - 1 := by omega
  have hdp : d - 1 + 1 ≤ d := by omega
  obtain ⟨h8, h9, h10, h11, hz11⟩ := hR
  have hF : FB 8 11 w w := FB.rf
  refine J_iload_n (pc := 0) dX1_add_0 rfl rfl ?_
  refine J_if_ltN (pc := 1) (tgt := 25) dX1_add_1 (by decide) (by omega) (fun hf2 => ?_)
  refine J_iload_n (pc := 4) dX1_add_4 rfl rfl ?_
  refine J_aload_n (pc := 5) dX1_add_5 rfl rfl rfl ?_
  refine J_get (pc := 6) (k := 0) dX1_add_6 kC3 (by decide) ff_X1_19 h9 rfl ?_
  refine J_alen (pc := 9) (n := nI 5040) dX1_add_9 h10 (by decide) (by rw [List.length_map, List.length_range]; rfl) ?_
  refine J_icmp_geN (pc := 10) (tgt := 25) dX1_add_10 (by decide) (by omega) (by omega) (fun ht3 => ?_) (fun hf4 => ?_)
  · exact absurd ht3 (by omega)
  · refine J_aload_n (pc := 13) dX1_add_13 rfl rfl rfl ?_
    refine J_get (pc := 14) (k := 2) dX1_add_14 kC3 (by decide) ff_X1_7 h9 rfl ?_
    refine J_aload_n (pc := 17) dX1_add_17 rfl rfl rfl ?_
    refine J_get (pc := 18) (k := 0) dX1_add_18 kC3 (by decide) ff_X1_19 h9 rfl ?_
    refine J_alen (pc := 21) (n := nI 5040) dX1_add_21 h10 (by decide) (by rw [List.length_map, List.length_range]; rfl) ?_
    refine J_icmp_ltN (pc := 22) (tgt := 27) dX1_add_22 (by decide) (by omega) (by omega) (fun ht5 => ?_) (fun hf6 => ?_)
    · refine J_iload_n (pc := 27) dX1_add_27 rfl rfl ?_
      refine J_bipush (pc := 28) (v := nI 32) dX1_add_28 (by decide) ?_
      refine J_idivN (pc := 30) dX1_add_30 (by omega) (by omega) (by omega) ?_
      refine J_istore_n (pc := 31) dX1_add_31 rfl (by decide) rfl ?_
      show J X mX1_add d kc ks 32 [some (.ref 9), some (.int (nI x)), some (.int (nI k)), some (.int (nI (k / 32))), none] [] w _
      refine J_iload_n (pc := 32) dX1_add_32 rfl rfl ?_
      refine J_bipush (pc := 33) (v := nI 32) dX1_add_33 (by decide) ?_
      refine J_iremN (pc := 35) dX1_add_35 (by omega) (by omega) (by omega) ?_
      refine J_istore (pc := 36) dX1_add_36 (by decide) rfl ?_
      show J X mX1_add d kc ks 38 [some (.ref 9), some (.int (nI x)), some (.int (nI k)), some (.int (nI (k / 32))), some (.int (nI (k % 32)))] [] w _
      refine J_aload_n (pc := 38) dX1_add_38 rfl rfl rfl ?_
      refine J_get (pc := 39) (k := 1) dX1_add_39 kC3 (by decide) ff_X1_23 h9 rfl ?_
      refine J_iload_n (pc := 42) dX1_add_42 rfl rfl ?_
      refine J_iald (pc := 43) dX1_add_43 h11 (by rw [hz11]; exact nI_in (by omega) (by decide)) ?_
      refine J_iload (pc := 44) dX1_add_44 rfl ?_
      refine J_callSN0 (pc := 46) (M := mX1_add) (as := [.int (ml.getD (nI (k / 32)).toNatClampNeg 0), .int (nI (k % 32))]) dX1_add_46 fw_X6_has fl_X1_32 fs_X6_has rfl (c_X6_has_ati hs (d := d - 1) (Nat.le_trans (by decide) hdm) (w := w) (ml.getD (nI (k / 32)).toNatClampNeg 0) (k % 32) (by first | assumption | omega) (kc := 0) (ks := 0)) hdp (st := []) (Nat.le_of_ble_eq_true rfl) rfl (kr_P fun v7 hv7 => ?_) kx_I
      rcases hv7 with ⟨rfl, hk7_0⟩ | ⟨rfl, hk7_0⟩
      · refine J_if_eqN (pc := 49) (tgt := 54) dX1_add_49 (by decide) (by decide) (fun _ => ?_) (fun h => absurd h (by decide))
        refine J_aload_n (pc := 54) dX1_add_54 rfl rfl rfl ?_
        refine J_get (pc := 55) (k := 1) dX1_add_55 kC3 (by decide) ff_X1_23 h9 rfl ?_
        refine J_iload_n (pc := 58) dX1_add_58 rfl rfl ?_
        refine J_dup2 (pc := 59) dX1_add_59 rfl rfl ?_
        refine J_iald (pc := 60) dX1_add_60 h11 (by rw [hz11]; exact nI_in (by omega) (by decide)) ?_
        refine J_iconst (pc := 61) (v := nI 1) dX1_add_61 (by decide) ?_
        refine J_iload (pc := 62) dX1_add_62 rfl ?_
        refine J_ishl (pc := 64) dX1_add_64 ?_
        refine J_ior (pc := 65) dX1_add_65 ?_
        refine J_iastW (pc := 66) dX1_add_66 h11 (by rw [hz11]; exact nI_in (by omega) (by decide)) (fun w8 hln8 hc8 hne8 => ?_)
        have hz8 : (ml.set (nI (k / 32)).toNatClampNeg ((ml.getD (nI (k / 32)).toNatClampNeg 0) ||| (nI 1 <<< (nI (k % 32) &&& 31)))).length = 158 := by rw [List.length_set]; exact hz11
        have h8_8 := (hne8 8 (by decide)).trans h8
        have h9_8 := (hne8 9 (by decide)).trans h9
        have h10_8 := (hne8 10 (by decide)).trans h10
        have hF8 := hF.st hln8 hne8 (by decide)
        refine J_aload_n (pc := 67) dX1_add_67 rfl rfl rfl ?_
        refine J_get (pc := 68) (k := 0) dX1_add_68 kC3 (by decide) ff_X1_19 h9_8 rfl ?_
        refine J_aload_n (pc := 71) dX1_add_71 rfl rfl rfl ?_
        refine J_get (pc := 72) (k := 2) dX1_add_72 kC3 (by decide) ff_X1_7 h9_8 rfl ?_
        refine J_iload_n (pc := 75) dX1_add_75 rfl rfl ?_
        refine J_iastF (pc := 76) dX1_add_76 h10_8 (by omega) (by decide) (fun w9 hln9 hc9 hne9 => ?_)
        have h8_9 := (hne9 8 (by decide)).trans h8_8
        have h9_9 := (hne9 9 (by decide)).trans h9_8
        have h11_9 := (hne9 11 (by decide)).trans hc8
        have hF9 := hF8.st hln9 hne9 (by decide)
        refine J_aload_n (pc := 77) dX1_add_77 rfl rfl rfl ?_
        refine J_dup (pc := 78) dX1_add_78 rfl ?_
        refine J_get (pc := 79) (k := 2) dX1_add_79 kC3 (by decide) ff_X1_7 h9_9 rfl ?_
        refine J_iconst (pc := 82) (v := nI 1) dX1_add_82 (by decide) ?_
        refine J_iaddN (pc := 83) dX1_add_83 ?_
        refine J_putW (pc := 84) (k := 2) dX1_add_84 kC3 (by decide) ff_X1_7 (Or.inl rfl) ⟨rfl, rfl⟩ h9_9 (by show 2 < 3; decide) (fun w10 hln10 hw10 hne10 => ?_)
        have h9_10 : w10[9]? = some (.inr (3, [.ref 10, .ref 11, .int (nI (mn + 1))])) := hw10
        have h8_10 := (hne10 8 (by decide)).trans h8_9
        have h10_10 := (hne10 10 (by decide)).trans hc9
        have h11_10 := (hne10 11 (by decide)).trans h11_9
        have hF10 := hF9.st hln10 hne10 (by decide)
        refine J_iconst (pc := 87) (v := nI 1) dX1_add_87 (by decide) ?_
        exact J_zret (pc := 88) dX1_add_88 rfl (nar_b (by first | decide | omega)) ⟨Or.inr (⟨rfl, (by exact bit_ne32 ml (k := k) (by omega) (by assumption))⟩), ⟨(ml.set (nI (k / 32)).toNatClampNeg ((ml.getD (nI (k / 32)).toNatClampNeg 0) ||| (nI 1 <<< (nI (k % 32) &&& 31)))), up tg mn x, mn + 1, ⟨h8_10, h9_10, h10_10, h11_10, hz8⟩, hF10, (by first | exact Or.inl ⟨(by first | exact hy1.resolve_left (by omega) | exact (bit_eq32 ml (k := k) (by omega)).mp (by assumption)), rfl, rfl, rfl⟩ | exact Or.inr ⟨bit_ne32 ml (k := k) (by omega) (by assumption), rfl, rfl, rfl⟩)⟩⟩
      · refine J_if_eqN (pc := 49) (tgt := 54) dX1_add_49 (by decide) (by decide) (fun h => absurd h (by decide)) (fun _ => ?_)
        refine J_iconst (pc := 52) (v := nI 0) dX1_add_52 (by decide) ?_
        exact J_zret (pc := 53) dX1_add_53 rfl (nar_b (by first | decide | omega)) ⟨Or.inl ⟨rfl, (by first | exact hy1.resolve_left (by omega) | exact (bit_eq32 ml (k := k) (by omega)).mp (by assumption))⟩, ⟨ml, tg, mn, ⟨h8, h9, h10, h11, hz11⟩, hF, (by first | exact Or.inl ⟨(by first | exact hy1.resolve_left (by omega) | exact (bit_eq32 ml (k := k) (by omega)).mp (by assumption)), rfl, rfl, rfl⟩ | exact Or.inr ⟨bit_ne32 ml (k := k) (by omega) (by assumption), rfl, rfl, rfl⟩)⟩⟩
    · refine J_iconst (pc := 25) (v := nI 0) dX1_add_25 (by decide) ?_
      exact J_zret (pc := 26) dX1_add_26 rfl (nar_b (by first | decide | omega)) ⟨Or.inl ⟨rfl, (by first | exact hy1.resolve_left (by omega) | exact (bit_eq32 ml (k := k) (by omega)).mp (by assumption))⟩, ⟨ml, tg, mn, ⟨h8, h9, h10, h11, hz11⟩, hF, (by first | exact Or.inl ⟨(by first | exact hy1.resolve_left (by omega) | exact (bit_eq32 ml (k := k) (by omega)).mp (by assumption)), rfl, rfl, rfl⟩ | exact Or.inr ⟨bit_ne32 ml (k := k) (by omega) (by assumption), rfl, rfl, rfl⟩)⟩⟩
set_option maxRecDepth 100000 in
set_option maxHeartbeats 4000000 in
theorem c_X1_isMarked_at9x {X : jX} (hs : X.1.stackTraces = false) {d : Nat} (hd : 1 ≤ d) {ml : List Int32} {tg : Nat → Nat} {mn : Nat} {wn : Nat} {w : List jC} (hR : WM ml tg mn wn w) (k : Nat) (hy0 : k < 5040) {kc ks : Nat} : jMet X mX1_isMarked d kc ks [.ref 9, .int (nI k)] w (pI (fun v => (v = nI 0 ∧ bitL ml k = false) ∨ (v = nI 1 ∧ bitL ml k = true)) (fun w' => w' = w)) := by
  refine jMet_of hs (by decide +kernel) (Nat.le_of_ble_eq_true rfl) (L := [some (.ref 9), some (.int (nI k))]) rfl ?_
  have hdm : 0 ≤ d - 1 := by omega
  have hdp : d - 1 + 1 ≤ d := by omega
  obtain ⟨h8, h9, h10, h11, hz11⟩ := hR
  have hF : FB 8 11 w w := FB.rf
  refine J_iload_n (pc := 0) dX1_isMarked_0 rfl rfl ?_
  refine J_if_ltN (pc := 1) (tgt := 36) dX1_isMarked_1 (by decide) (by omega) (fun hf2 => ?_)
  refine J_iload_n (pc := 4) dX1_isMarked_4 rfl rfl ?_
  refine J_aload_n (pc := 5) dX1_isMarked_5 rfl rfl rfl ?_
  refine J_get (pc := 6) (k := 0) dX1_isMarked_6 kC3 (by decide) ff_X1_19 h9 rfl ?_
  refine J_alen (pc := 9) (n := nI 5040) dX1_isMarked_9 h10 (by decide) (by rw [List.length_map, List.length_range]; rfl) ?_
  refine J_icmp_geN (pc := 10) (tgt := 36) dX1_isMarked_10 (by decide) (by omega) (by omega) (fun ht3 => ?_) (fun hf4 => ?_)
  · exact absurd ht3 (by omega)
  · refine J_aload_n (pc := 13) dX1_isMarked_13 rfl rfl rfl ?_
    refine J_get (pc := 14) (k := 1) dX1_isMarked_14 kC3 (by decide) ff_X1_23 h9 rfl ?_
    refine J_iload_n (pc := 17) dX1_isMarked_17 rfl rfl ?_
    refine J_bipush (pc := 18) (v := nI 32) dX1_isMarked_18 (by decide) ?_
    refine J_idivN (pc := 20) dX1_isMarked_20 (by omega) (by omega) (by omega) ?_
    refine J_iald (pc := 21) dX1_isMarked_21 h11 (by rw [hz11]; exact nI_in (by omega) (by decide)) ?_
    refine J_iload_n (pc := 22) dX1_isMarked_22 rfl rfl ?_
    refine J_bipush (pc := 23) (v := nI 32) dX1_isMarked_23 (by decide) ?_
    refine J_iremN (pc := 25) dX1_isMarked_25 (by omega) (by omega) (by omega) ?_
    refine J_callSN0 (pc := 26) (M := mX1_isMarked) (as := [.int (ml.getD (nI (k / 32)).toNatClampNeg 0), .int (nI (k % 32))]) dX1_isMarked_26 fw_X6_has fl_X1_32 fs_X6_has rfl (c_X6_has_ati hs (d := d - 1) (Nat.le_trans (by decide) hdm) (w := w) (ml.getD (nI (k / 32)).toNatClampNeg 0) (k % 32) (by first | assumption | omega) (kc := 0) (ks := 0)) hdp (st := []) (Nat.le_of_ble_eq_true rfl) rfl (kr_P fun v5 hv5 => ?_) kx_I
    rcases hv5 with ⟨rfl, hk5_0⟩ | ⟨rfl, hk5_0⟩
    · refine J_if_eqN (pc := 29) (tgt := 36) dX1_isMarked_29 (by decide) (by decide) (fun _ => ?_) (fun h => absurd h (by decide))
      refine J_iconst (pc := 36) (v := nI 0) dX1_isMarked_36 (by decide) ?_
      exact J_zret (pc := 37) dX1_isMarked_37 rfl (nar_b (by first | decide | omega)) ⟨Or.inl ⟨rfl, (by exact bit_ne32 ml (k := k) (by omega) (by assumption))⟩, rfl⟩
    · refine J_if_eqN (pc := 29) (tgt := 36) dX1_isMarked_29 (by decide) (by decide) (fun h => absurd h (by decide)) (fun _ => ?_)
      refine J_iconst (pc := 32) (v := nI 1) dX1_isMarked_32 (by decide) ?_
      refine J_goto (pc := 33) (tgt := 37) dX1_isMarked_33 (by decide) ?_
      exact J_zret (pc := 37) dX1_isMarked_37 rfl (nar_b (by first | decide | omega)) ⟨Or.inr (⟨rfl, (by exact (bit_eq32 ml (k := k) (by omega)).mp (by assumption))⟩), rfl⟩
set_option maxRecDepth 100000 in
set_option maxHeartbeats 4000000 in
theorem c_X1_thing_at9x {X : jX} (hs : X.1.stackTraces = false) {d : Nat} (hd : 0 ≤ d) {ml : List Int32} {tg : Nat → Nat} {mn : Nat} {wn : Nat} {w : List jC} (hR : WM ml tg mn wn w) (i : Nat) (hy0 : i < 5040) {kc ks : Nat} : jMet X mX1_thing d kc ks [.ref 9, .int (nI i)] w (pI (fun v => v = nI (tg i)) (fun w' => w' = w)) := by
  refine jMet_of hs (by decide +kernel) (Nat.le_of_ble_eq_true rfl) (L := [some (.ref 9), some (.int (nI i))]) rfl ?_
  obtain ⟨h8, h9, h10, h11, hz11⟩ := hR
  have hF : FB 8 11 w w := FB.rf
  refine J_iload_n (pc := 0) dX1_thing_0 rfl rfl ?_
  refine J_if_ltN (pc := 1) (tgt := 13) dX1_thing_1 (by decide) (by omega) (fun hf2 => ?_)
  refine J_iload_n (pc := 4) dX1_thing_4 rfl rfl ?_
  refine J_aload_n (pc := 5) dX1_thing_5 rfl rfl rfl ?_
  refine J_get (pc := 6) (k := 0) dX1_thing_6 kC3 (by decide) ff_X1_19 h9 rfl ?_
  refine J_alen (pc := 9) (n := nI 5040) dX1_thing_9 h10 (by decide) (by rw [List.length_map, List.length_range]; rfl) ?_
  refine J_icmp_ltN (pc := 10) (tgt := 17) dX1_thing_10 (by decide) (by omega) (by omega) (fun ht3 => ?_) (fun hf4 => ?_)
  · refine J_aload_n (pc := 17) dX1_thing_17 rfl rfl rfl ?_
    refine J_get (pc := 18) (k := 0) dX1_thing_18 kC3 (by decide) ff_X1_19 h9 rfl ?_
    refine J_iload_n (pc := 21) dX1_thing_21 rfl rfl ?_
    refine J_ialdF (pc := 22) dX1_thing_22 h10 (by omega) (by decide) ?_
    exact J_iret (pc := 23) dX1_thing_23 rfl ⟨rfl, rfl⟩
  · exact absurd hy0 (by omega)
set_option maxRecDepth 100000 in
set_option maxHeartbeats 4000000 in
theorem c_X1_length_at9x {X : jX} (hs : X.1.stackTraces = false) {d : Nat} (hd : 0 ≤ d) {ml : List Int32} {tg : Nat → Nat} {mn : Nat} {wn : Nat} {w : List jC} (hR : WM ml tg mn wn w) {kc ks : Nat} : jMet X mX1_length d kc ks [.ref 9] w (pI (fun v => v = nI mn) (fun w' => w' = w)) := by
  refine jMet_of hs (by decide +kernel) (Nat.le_of_ble_eq_true rfl) (L := [some (.ref 9)]) rfl ?_
  obtain ⟨h8, h9, h10, h11, hz11⟩ := hR
  have hF : FB 8 11 w w := FB.rf
  refine J_aload_n (pc := 0) dX1_length_0 rfl rfl rfl ?_
  refine J_get (pc := 1) (k := 2) dX1_length_1 kC3 (by decide) ff_X1_7 h9 rfl ?_
  exact J_iret (pc := 4) dX1_length_4 rfl ⟨rfl, rfl⟩
set_option maxRecDepth 100000 in
set_option maxHeartbeats 4000000 in
theorem c_X1_clear_at15x {X : jX} (hs : X.1.stackTraces = false) {d : Nat} (hd : 1 ≤ d) {ql : List Int32} {qt : Nat → Nat} {pw : Nat → Nat} {qm : Nat} {pc : Nat} {qn : Nat} {w : List jC} (hR : QM ql qt pw qm pc qn w) {kc ks : Nat} : jMet X mX1_clear d kc ks [.ref 15] w (pV (fun w' => QM (List.replicate 69 0) qt pw 0 pc qn w' ∧ FB 14 18 w w')) := by
  refine jMet_of hs (by decide +kernel) (Nat.le_of_ble_eq_true rfl) (L := [some (.ref 15)]) rfl ?_
  have hdm : 0 ≤ d - 1 := by omega
  have hdp : d - 1 + 1 ≤ d := by omega
  obtain ⟨h14, h15, h16, h17, h18, hz17⟩ := hR
  have hF : FB 14 18 w w := FB.rf
  refine J_aload_n (pc := 0) dX1_clear_0 rfl rfl rfl ?_
  refine J_iconst (pc := 1) (v := nI 0) dX1_clear_1 (by decide) ?_
  refine J_putW (pc := 2) (k := 2) dX1_clear_2 kC3 (by decide) ff_X1_7 (Or.inl rfl) ⟨rfl, rfl⟩ h15 (by show 2 < 3; decide) (fun w1 hln1 hw1 hne1 => ?_)
  have h15_1 : w1[15]? = some (.inr (3, [.ref 16, .ref 17, .int (nI 0)])) := hw1
  have h14_1 := (hne1 14 (by decide)).trans h14
  have h16_1 := (hne1 16 (by decide)).trans h16
  have h17_1 := (hne1 17 (by decide)).trans h17
  have h18_1 := (hne1 18 (by decide)).trans h18
  have hF1 := hF.st hln1 hne1 (by decide)
  refine J_aload_n (pc := 5) dX1_clear_5 rfl rfl rfl ?_
  refine J_get (pc := 6) (k := 1) dX1_clear_6 kC3 (by decide) ff_X1_23 h15_1 rfl ?_
  refine J_iconst (pc := 9) (v := nI 0) dX1_clear_9 (by decide) ?_
  refine J_callS0 (pc := 10) (M := mX1_clear) (as := [.ref 17, .int (nI 0)]) dX1_clear_10 fw_J7_fill_53178 fl_X1_26 fs_J7_fill_53178 rfl (c_J7_fill_53178_atl hs (d := d - 1) (w := w1) 17 h17_1 hz17 (by decide) (kc := 0) (ks := 0)) (by omega) (st := []) (Nat.le_of_ble_eq_true rfl) rfl (kr_V fun w2 hw2 => ?_) kx_V
  obtain ⟨hln2, hc2, hne2⟩ := hw2
  have hz2 : (List.replicate 69 (0 : Int32)).length = 69 := List.length_replicate
  have h14_2 := (hne2 14 (by decide)).trans h14_1
  have h15_2 := (hne2 15 (by decide)).trans h15_1
  have h16_2 := (hne2 16 (by decide)).trans h16_1
  have h18_2 := (hne2 18 (by decide)).trans h18_1
  have hF2 := hF1.st hln2 hne2 (by decide)
  exact J_vret (pc := 13) dX1_clear_13 rfl (⟨⟨h14_2, h15_2, h16_2, hc2, h18_2, hz2⟩, hF2⟩)
set_option maxRecDepth 100000 in
set_option maxHeartbeats 4000000 in
theorem c_X1_add_at15x {X : jX} (hs : X.1.stackTraces = false) {d : Nat} (hd : 1 ≤ d) {ql : List Int32} {qt : Nat → Nat} {pw : Nat → Nat} {qm : Nat} {pc : Nat} {qn : Nat} {w : List jC} (hR : QM ql qt pw qm pc qn w) (x : Nat) (k : Nat) (hy0 : k < 2187) (hy1 : qm < 2187 ∨ bitL ql k = true) (hy2 : qm ≤ 2187) {kc ks : Nat} : jMet X mX1_add d kc ks [.ref 15, .int (nI x), .int (nI k)] w (pI (fun v => (v = nI 0 ∧ bitL ql k = true) ∨ (v = nI 1 ∧ bitL ql k = false)) (fun w' => ∃ (ql' : List Int32), ∃ (qt' : Nat → Nat), ∃ (qm' : Nat), QM ql' qt' pw qm' pc qn w' ∧ FB 14 18 w w' ∧ (AP ql qt qm x k ql' qt' qm'))) := by
  refine jMet_of hs (by decide +kernel) (Nat.le_of_ble_eq_true rfl) (L := [some (.ref 15), some (.int (nI x)), some (.int (nI k)), none, none]) rfl ?_
  have hdm : 0 ≤ d - 1 := by omega
  have hdp : d - 1 + 1 ≤ d := by omega
  obtain ⟨h14, h15, h16, h17, h18, hz17⟩ := hR
  have hF : FB 14 18 w w := FB.rf
  refine J_iload_n (pc := 0) dX1_add_0 rfl rfl ?_
  refine J_if_ltN (pc := 1) (tgt := 25) dX1_add_1 (by decide) (by omega) (fun hf2 => ?_)
  refine J_iload_n (pc := 4) dX1_add_4 rfl rfl ?_
  refine J_aload_n (pc := 5) dX1_add_5 rfl rfl rfl ?_
  refine J_get (pc := 6) (k := 0) dX1_add_6 kC3 (by decide) ff_X1_19 h15 rfl ?_
  refine J_alen (pc := 9) (n := nI 2187) dX1_add_9 h16 (by decide) (by rw [List.length_map, List.length_range]; rfl) ?_
  refine J_icmp_geN (pc := 10) (tgt := 25) dX1_add_10 (by decide) (by omega) (by omega) (fun ht3 => ?_) (fun hf4 => ?_)
  · exact absurd ht3 (by omega)
  · refine J_aload_n (pc := 13) dX1_add_13 rfl rfl rfl ?_
    refine J_get (pc := 14) (k := 2) dX1_add_14 kC3 (by decide) ff_X1_7 h15 rfl ?_
    refine J_aload_n (pc := 17) dX1_add_17 rfl rfl rfl ?_
    refine J_get (pc := 18) (k := 0) dX1_add_18 kC3 (by decide) ff_X1_19 h15 rfl ?_
    refine J_alen (pc := 21) (n := nI 2187) dX1_add_21 h16 (by decide) (by rw [List.length_map, List.length_range]; rfl) ?_
    refine J_icmp_ltN (pc := 22) (tgt := 27) dX1_add_22 (by decide) (by omega) (by omega) (fun ht5 => ?_) (fun hf6 => ?_)
    · refine J_iload_n (pc := 27) dX1_add_27 rfl rfl ?_
      refine J_bipush (pc := 28) (v := nI 32) dX1_add_28 (by decide) ?_
      refine J_idivN (pc := 30) dX1_add_30 (by omega) (by omega) (by omega) ?_
      refine J_istore_n (pc := 31) dX1_add_31 rfl (by decide) rfl ?_
      show J X mX1_add d kc ks 32 [some (.ref 15), some (.int (nI x)), some (.int (nI k)), some (.int (nI (k / 32))), none] [] w _
      refine J_iload_n (pc := 32) dX1_add_32 rfl rfl ?_
      refine J_bipush (pc := 33) (v := nI 32) dX1_add_33 (by decide) ?_
      refine J_iremN (pc := 35) dX1_add_35 (by omega) (by omega) (by omega) ?_
      refine J_istore (pc := 36) dX1_add_36 (by decide) rfl ?_
      show J X mX1_add d kc ks 38 [some (.ref 15), some (.int (nI x)), some (.int (nI k)), some (.int (nI (k / 32))), some (.int (nI (k % 32)))] [] w _
      refine J_aload_n (pc := 38) dX1_add_38 rfl rfl rfl ?_
      refine J_get (pc := 39) (k := 1) dX1_add_39 kC3 (by decide) ff_X1_23 h15 rfl ?_
      refine J_iload_n (pc := 42) dX1_add_42 rfl rfl ?_
      refine J_iald (pc := 43) dX1_add_43 h17 (by rw [hz17]; exact nI_in (by omega) (by decide)) ?_
      refine J_iload (pc := 44) dX1_add_44 rfl ?_
      refine J_callSN0 (pc := 46) (M := mX1_add) (as := [.int (ql.getD (nI (k / 32)).toNatClampNeg 0), .int (nI (k % 32))]) dX1_add_46 fw_X6_has fl_X1_32 fs_X6_has rfl (c_X6_has_ati hs (d := d - 1) (Nat.le_trans (by decide) hdm) (w := w) (ql.getD (nI (k / 32)).toNatClampNeg 0) (k % 32) (by first | assumption | omega) (kc := 0) (ks := 0)) hdp (st := []) (Nat.le_of_ble_eq_true rfl) rfl (kr_P fun v7 hv7 => ?_) kx_I
      rcases hv7 with ⟨rfl, hk7_0⟩ | ⟨rfl, hk7_0⟩
      · refine J_if_eqN (pc := 49) (tgt := 54) dX1_add_49 (by decide) (by decide) (fun _ => ?_) (fun h => absurd h (by decide))
        refine J_aload_n (pc := 54) dX1_add_54 rfl rfl rfl ?_
        refine J_get (pc := 55) (k := 1) dX1_add_55 kC3 (by decide) ff_X1_23 h15 rfl ?_
        refine J_iload_n (pc := 58) dX1_add_58 rfl rfl ?_
        refine J_dup2 (pc := 59) dX1_add_59 rfl rfl ?_
        refine J_iald (pc := 60) dX1_add_60 h17 (by rw [hz17]; exact nI_in (by omega) (by decide)) ?_
        refine J_iconst (pc := 61) (v := nI 1) dX1_add_61 (by decide) ?_
        refine J_iload (pc := 62) dX1_add_62 rfl ?_
        refine J_ishl (pc := 64) dX1_add_64 ?_
        refine J_ior (pc := 65) dX1_add_65 ?_
        refine J_iastW (pc := 66) dX1_add_66 h17 (by rw [hz17]; exact nI_in (by omega) (by decide)) (fun w8 hln8 hc8 hne8 => ?_)
        have hz8 : (ql.set (nI (k / 32)).toNatClampNeg ((ql.getD (nI (k / 32)).toNatClampNeg 0) ||| (nI 1 <<< (nI (k % 32) &&& 31)))).length = 69 := by rw [List.length_set]; exact hz17
        have h14_8 := (hne8 14 (by decide)).trans h14
        have h15_8 := (hne8 15 (by decide)).trans h15
        have h16_8 := (hne8 16 (by decide)).trans h16
        have h18_8 := (hne8 18 (by decide)).trans h18
        have hF8 := hF.st hln8 hne8 (by decide)
        refine J_aload_n (pc := 67) dX1_add_67 rfl rfl rfl ?_
        refine J_get (pc := 68) (k := 0) dX1_add_68 kC3 (by decide) ff_X1_19 h15_8 rfl ?_
        refine J_aload_n (pc := 71) dX1_add_71 rfl rfl rfl ?_
        refine J_get (pc := 72) (k := 2) dX1_add_72 kC3 (by decide) ff_X1_7 h15_8 rfl ?_
        refine J_iload_n (pc := 75) dX1_add_75 rfl rfl ?_
        refine J_iastF (pc := 76) dX1_add_76 h16_8 (by omega) (by decide) (fun w9 hln9 hc9 hne9 => ?_)
        have h14_9 := (hne9 14 (by decide)).trans h14_8
        have h15_9 := (hne9 15 (by decide)).trans h15_8
        have h17_9 := (hne9 17 (by decide)).trans hc8
        have h18_9 := (hne9 18 (by decide)).trans h18_8
        have hF9 := hF8.st hln9 hne9 (by decide)
        refine J_aload_n (pc := 77) dX1_add_77 rfl rfl rfl ?_
        refine J_dup (pc := 78) dX1_add_78 rfl ?_
        refine J_get (pc := 79) (k := 2) dX1_add_79 kC3 (by decide) ff_X1_7 h15_9 rfl ?_
        refine J_iconst (pc := 82) (v := nI 1) dX1_add_82 (by decide) ?_
        refine J_iaddN (pc := 83) dX1_add_83 ?_
        refine J_putW (pc := 84) (k := 2) dX1_add_84 kC3 (by decide) ff_X1_7 (Or.inl rfl) ⟨rfl, rfl⟩ h15_9 (by show 2 < 3; decide) (fun w10 hln10 hw10 hne10 => ?_)
        have h15_10 : w10[15]? = some (.inr (3, [.ref 16, .ref 17, .int (nI (qm + 1))])) := hw10
        have h14_10 := (hne10 14 (by decide)).trans h14_9
        have h16_10 := (hne10 16 (by decide)).trans hc9
        have h17_10 := (hne10 17 (by decide)).trans h17_9
        have h18_10 := (hne10 18 (by decide)).trans h18_9
        have hF10 := hF9.st hln10 hne10 (by decide)
        refine J_iconst (pc := 87) (v := nI 1) dX1_add_87 (by decide) ?_
        exact J_zret (pc := 88) dX1_add_88 rfl (nar_b (by first | decide | omega)) ⟨Or.inr (⟨rfl, (by exact bit_ne32 ql (k := k) (by omega) (by assumption))⟩), ⟨(ql.set (nI (k / 32)).toNatClampNeg ((ql.getD (nI (k / 32)).toNatClampNeg 0) ||| (nI 1 <<< (nI (k % 32) &&& 31)))), up qt qm x, qm + 1, ⟨h14_10, h15_10, h16_10, h17_10, h18_10, hz8⟩, hF10, (by first | exact Or.inl ⟨(by first | exact hy1.resolve_left (by omega) | exact (bit_eq32 ql (k := k) (by omega)).mp (by assumption)), rfl, rfl, rfl⟩ | exact Or.inr ⟨bit_ne32 ql (k := k) (by omega) (by assumption), rfl, rfl, rfl⟩)⟩⟩
      · refine J_if_eqN (pc := 49) (tgt := 54) dX1_add_49 (by decide) (by decide) (fun h => absurd h (by decide)) (fun _ => ?_)
        refine J_iconst (pc := 52) (v := nI 0) dX1_add_52 (by decide) ?_
        exact J_zret (pc := 53) dX1_add_53 rfl (nar_b (by first | decide | omega)) ⟨Or.inl ⟨rfl, (by first | exact hy1.resolve_left (by omega) | exact (bit_eq32 ql (k := k) (by omega)).mp (by assumption))⟩, ⟨ql, qt, qm, ⟨h14, h15, h16, h17, h18, hz17⟩, hF, (by first | exact Or.inl ⟨(by first | exact hy1.resolve_left (by omega) | exact (bit_eq32 ql (k := k) (by omega)).mp (by assumption)), rfl, rfl, rfl⟩ | exact Or.inr ⟨bit_ne32 ql (k := k) (by omega) (by assumption), rfl, rfl, rfl⟩)⟩⟩
    · refine J_iconst (pc := 25) (v := nI 0) dX1_add_25 (by decide) ?_
      exact J_zret (pc := 26) dX1_add_26 rfl (nar_b (by first | decide | omega)) ⟨Or.inl ⟨rfl, (by first | exact hy1.resolve_left (by omega) | exact (bit_eq32 ql (k := k) (by omega)).mp (by assumption))⟩, ⟨ql, qt, qm, ⟨h14, h15, h16, h17, h18, hz17⟩, hF, (by first | exact Or.inl ⟨(by first | exact hy1.resolve_left (by omega) | exact (bit_eq32 ql (k := k) (by omega)).mp (by assumption)), rfl, rfl, rfl⟩ | exact Or.inr ⟨bit_ne32 ql (k := k) (by omega) (by assumption), rfl, rfl, rfl⟩)⟩⟩
set_option maxRecDepth 100000 in
set_option maxHeartbeats 4000000 in
theorem c_X1_isMarked_at15x {X : jX} (hs : X.1.stackTraces = false) {d : Nat} (hd : 1 ≤ d) {ql : List Int32} {qt : Nat → Nat} {pw : Nat → Nat} {qm : Nat} {pc : Nat} {qn : Nat} {w : List jC} (hR : QM ql qt pw qm pc qn w) (k : Nat) (hy0 : k < 2187) {kc ks : Nat} : jMet X mX1_isMarked d kc ks [.ref 15, .int (nI k)] w (pI (fun v => (v = nI 0 ∧ bitL ql k = false) ∨ (v = nI 1 ∧ bitL ql k = true)) (fun w' => w' = w)) := by
  refine jMet_of hs (by decide +kernel) (Nat.le_of_ble_eq_true rfl) (L := [some (.ref 15), some (.int (nI k))]) rfl ?_
  have hdm : 0 ≤ d - 1 := by omega
  have hdp : d - 1 + 1 ≤ d := by omega
  obtain ⟨h14, h15, h16, h17, h18, hz17⟩ := hR
  have hF : FB 14 18 w w := FB.rf
  refine J_iload_n (pc := 0) dX1_isMarked_0 rfl rfl ?_
  refine J_if_ltN (pc := 1) (tgt := 36) dX1_isMarked_1 (by decide) (by omega) (fun hf2 => ?_)
  refine J_iload_n (pc := 4) dX1_isMarked_4 rfl rfl ?_
  refine J_aload_n (pc := 5) dX1_isMarked_5 rfl rfl rfl ?_
  refine J_get (pc := 6) (k := 0) dX1_isMarked_6 kC3 (by decide) ff_X1_19 h15 rfl ?_
  refine J_alen (pc := 9) (n := nI 2187) dX1_isMarked_9 h16 (by decide) (by rw [List.length_map, List.length_range]; rfl) ?_
  refine J_icmp_geN (pc := 10) (tgt := 36) dX1_isMarked_10 (by decide) (by omega) (by omega) (fun ht3 => ?_) (fun hf4 => ?_)
  · exact absurd ht3 (by omega)
  · refine J_aload_n (pc := 13) dX1_isMarked_13 rfl rfl rfl ?_
    refine J_get (pc := 14) (k := 1) dX1_isMarked_14 kC3 (by decide) ff_X1_23 h15 rfl ?_
    refine J_iload_n (pc := 17) dX1_isMarked_17 rfl rfl ?_
    refine J_bipush (pc := 18) (v := nI 32) dX1_isMarked_18 (by decide) ?_
    refine J_idivN (pc := 20) dX1_isMarked_20 (by omega) (by omega) (by omega) ?_
    refine J_iald (pc := 21) dX1_isMarked_21 h17 (by rw [hz17]; exact nI_in (by omega) (by decide)) ?_
    refine J_iload_n (pc := 22) dX1_isMarked_22 rfl rfl ?_
    refine J_bipush (pc := 23) (v := nI 32) dX1_isMarked_23 (by decide) ?_
    refine J_iremN (pc := 25) dX1_isMarked_25 (by omega) (by omega) (by omega) ?_
    refine J_callSN0 (pc := 26) (M := mX1_isMarked) (as := [.int (ql.getD (nI (k / 32)).toNatClampNeg 0), .int (nI (k % 32))]) dX1_isMarked_26 fw_X6_has fl_X1_32 fs_X6_has rfl (c_X6_has_ati hs (d := d - 1) (Nat.le_trans (by decide) hdm) (w := w) (ql.getD (nI (k / 32)).toNatClampNeg 0) (k % 32) (by first | assumption | omega) (kc := 0) (ks := 0)) hdp (st := []) (Nat.le_of_ble_eq_true rfl) rfl (kr_P fun v5 hv5 => ?_) kx_I
    rcases hv5 with ⟨rfl, hk5_0⟩ | ⟨rfl, hk5_0⟩
    · refine J_if_eqN (pc := 29) (tgt := 36) dX1_isMarked_29 (by decide) (by decide) (fun _ => ?_) (fun h => absurd h (by decide))
      refine J_iconst (pc := 36) (v := nI 0) dX1_isMarked_36 (by decide) ?_
      exact J_zret (pc := 37) dX1_isMarked_37 rfl (nar_b (by first | decide | omega)) ⟨Or.inl ⟨rfl, (by exact bit_ne32 ql (k := k) (by omega) (by assumption))⟩, rfl⟩
    · refine J_if_eqN (pc := 29) (tgt := 36) dX1_isMarked_29 (by decide) (by decide) (fun h => absurd h (by decide)) (fun _ => ?_)
      refine J_iconst (pc := 32) (v := nI 1) dX1_isMarked_32 (by decide) ?_
      refine J_goto (pc := 33) (tgt := 37) dX1_isMarked_33 (by decide) ?_
      exact J_zret (pc := 37) dX1_isMarked_37 rfl (nar_b (by first | decide | omega)) ⟨Or.inr (⟨rfl, (by exact (bit_eq32 ql (k := k) (by omega)).mp (by assumption))⟩), rfl⟩
set_option maxRecDepth 100000 in
set_option maxHeartbeats 4000000 in
theorem c_X1_thing_at15x {X : jX} (hs : X.1.stackTraces = false) {d : Nat} (hd : 0 ≤ d) {ql : List Int32} {qt : Nat → Nat} {pw : Nat → Nat} {qm : Nat} {pc : Nat} {qn : Nat} {w : List jC} (hR : QM ql qt pw qm pc qn w) (i : Nat) (hy0 : i < 2187) {kc ks : Nat} : jMet X mX1_thing d kc ks [.ref 15, .int (nI i)] w (pI (fun v => v = nI (qt i)) (fun w' => w' = w)) := by
  refine jMet_of hs (by decide +kernel) (Nat.le_of_ble_eq_true rfl) (L := [some (.ref 15), some (.int (nI i))]) rfl ?_
  obtain ⟨h14, h15, h16, h17, h18, hz17⟩ := hR
  have hF : FB 14 18 w w := FB.rf
  refine J_iload_n (pc := 0) dX1_thing_0 rfl rfl ?_
  refine J_if_ltN (pc := 1) (tgt := 13) dX1_thing_1 (by decide) (by omega) (fun hf2 => ?_)
  refine J_iload_n (pc := 4) dX1_thing_4 rfl rfl ?_
  refine J_aload_n (pc := 5) dX1_thing_5 rfl rfl rfl ?_
  refine J_get (pc := 6) (k := 0) dX1_thing_6 kC3 (by decide) ff_X1_19 h15 rfl ?_
  refine J_alen (pc := 9) (n := nI 2187) dX1_thing_9 h16 (by decide) (by rw [List.length_map, List.length_range]; rfl) ?_
  refine J_icmp_ltN (pc := 10) (tgt := 17) dX1_thing_10 (by decide) (by omega) (by omega) (fun ht3 => ?_) (fun hf4 => ?_)
  · refine J_aload_n (pc := 17) dX1_thing_17 rfl rfl rfl ?_
    refine J_get (pc := 18) (k := 0) dX1_thing_18 kC3 (by decide) ff_X1_19 h15 rfl ?_
    refine J_iload_n (pc := 21) dX1_thing_21 rfl rfl ?_
    refine J_ialdF (pc := 22) dX1_thing_22 h16 (by omega) (by decide) ?_
    exact J_iret (pc := 23) dX1_thing_23 rfl ⟨rfl, rfl⟩
  · exact absurd hy0 (by omega)
set_option maxRecDepth 100000 in
set_option maxHeartbeats 4000000 in
theorem c_X1_length_at15x {X : jX} (hs : X.1.stackTraces = false) {d : Nat} (hd : 0 ≤ d) {ql : List Int32} {qt : Nat → Nat} {pw : Nat → Nat} {qm : Nat} {pc : Nat} {qn : Nat} {w : List jC} (hR : QM ql qt pw qm pc qn w) {kc ks : Nat} : jMet X mX1_length d kc ks [.ref 15] w (pI (fun v => v = nI qm) (fun w' => w' = w)) := by
  refine jMet_of hs (by decide +kernel) (Nat.le_of_ble_eq_true rfl) (L := [some (.ref 15)]) rfl ?_
  obtain ⟨h14, h15, h16, h17, h18, hz17⟩ := hR
  have hF : FB 14 18 w w := FB.rf
  refine J_aload_n (pc := 0) dX1_length_0 rfl rfl rfl ?_
  refine J_get (pc := 1) (k := 2) dX1_length_1 kC3 (by decide) ff_X1_7 h15 rfl ?_
  exact J_iret (pc := 4) dX1_length_4 rfl ⟨rfl, rfl⟩
set_option maxRecDepth 100000 in
set_option maxHeartbeats 4000000 in
theorem c_X5_length_atx {X : jX} (hs : X.1.stackTraces = false) {d : Nat} (hd : 1 ≤ d) {ml : List Int32} {tg : Nat → Nat} {mn : Nat} {wn : Nat} {w : List jC} (hR : WM ml tg mn wn w) {kc ks : Nat} : jMet X mX5_length d kc ks [.ref 8] w (pI (fun v => v = nI mn) (fun w' => w' = w)) := by
  refine jMet_of hs (by decide +kernel) (Nat.le_of_ble_eq_true rfl) (L := [some (.ref 8)]) rfl ?_
  have hdm : 0 ≤ d - 1 := by omega
  have hdp : d - 1 + 1 ≤ d := by omega
  obtain ⟨h8, h9, h10, h11, hz11⟩ := hR
  have hF : FB 8 11 w w := FB.rf
  refine J_aload_n (pc := 0) dX5_length_0 rfl rfl rfl ?_
  refine J_get (pc := 1) (k := 0) dX5_length_1 kC6 (by decide) ff_X5_14 h8 rfl ?_
  refine J_callV0 (pc := 4) (M := mX5_length) (as := []) dX5_length_4 fw_X1_length fl_X5_49 fm_X1_length fe_X1_length h9 (by decide) rfl rfl rfl (c_X1_length_at9x hs (d := d - 1) (Nat.le_trans (by decide) hdm) (w := w) (ml := ml) (tg := tg) (mn := mn) (wn := wn) ⟨h8, h9, h10, h11, hz11⟩  (kc := 0) (ks := 0)) hdp (st := []) (Nat.le_of_ble_eq_true rfl) rfl (kr_P fun v1 hv1 => ?_) kx_I
  subst hv1
  exact J_iret (pc := 7) dX5_length_7 rfl ⟨rfl, rfl⟩
set_option maxRecDepth 100000 in
set_option maxHeartbeats 4000000 in
theorem c_X5_meets_atx {X : jX} (hs : X.1.stackTraces = false) {d : Nat} (hd : 1 ≤ d) {ml : List Int32} {tg : Nat → Nat} {mn : Nat} {wn : Nat} {w : List jC} (hR : WM ml tg mn wn w) (x : Nat) (hy0 : mn ≤ 5040) (hy1 : ∀ i, i < mn → tg i < 2 ^ 21) (hy2 : x < 2 ^ 21) {kc ks : Nat} : jMet X mX5_meets d kc ks [.ref 8, .int (nI x)] w (pI (fun v => (v = nI 0 ∧ ¬ ∃ i, i < mn ∧ tg i = x) ∨ (v = nI 1 ∧ ∃ i, i < mn ∧ tg i = x)) (fun w' => w' = w)) := by
  refine jMet_of hs (by decide +kernel) (Nat.le_of_ble_eq_true rfl) (L := [some (.ref 8), some (.int (nI x)), none]) rfl ?_
  have hdm : 0 ≤ d - 1 := by omega
  have hdp : d - 1 + 1 ≤ d := by omega
  obtain ⟨h8, h9, h10, h11, hz11⟩ := hR
  have hF : FB 8 11 w w := FB.rf
  refine J_iconst (pc := 0) (v := nI 0) dX5_meets_0 (by decide) ?_
  refine J_istore_n (pc := 1) dX5_meets_1 rfl (by decide) rfl ?_
  show J X mX5_meets d kc ks 2 [some (.ref 8), some (.int (nI x)), some (.int (nI 0))] [] w _
  have lp2_1 : ∀ (fuel : Nat) (c2 : Nat), (∀ i, i < c2 → ¬ tg i = x) → (c2 ≤ mn) → (mn - c2 < fuel) → J X mX5_meets d kc ks 2 [some (.ref 8), some (.int (nI x)), some (.int (nI c2))] [] w (pI (fun v => (v = nI 0 ∧ ¬ ∃ i, i < mn ∧ tg i = x) ∨ (v = nI 1 ∧ ∃ i, i < mn ∧ tg i = x)) (fun w' => w' = w)) := by
    intro fuellp2_1
    induction fuellp2_1 with
    | zero => intros; omega
    | succ fuellp2_1 ihlp2_1 =>
      intro c2 hv2_0 hv2_1 hf2
      refine J_iload_n (pc := 2) dX5_meets_2 rfl rfl ?_
      refine J_aload_n (pc := 3) dX5_meets_3 rfl rfl rfl ?_
      refine J_get (pc := 4) (k := 0) dX5_meets_4 kC6 (by decide) ff_X5_14 h8 rfl ?_
      refine J_callV0 (pc := 7) (M := mX5_meets) (as := []) dX5_meets_7 fw_X1_length fl_X5_49 fm_X1_length fe_X1_length h9 (by decide) rfl rfl rfl (c_X1_length_at9x hs (d := d - 1) (Nat.le_trans (by decide) hdm) (w := w) (ml := ml) (tg := tg) (mn := mn) (wn := wn) ⟨h8, h9, h10, h11, hz11⟩  (kc := 0) (ks := 0)) hdp (st := [.int (nI c2)]) (Nat.le_of_ble_eq_true rfl) rfl (kr_P fun v3 hv3 => ?_) kx_I
      subst hv3
      refine J_icmp_geN (pc := 10) (tgt := 33) dX5_meets_10 (by decide) (by omega) (by omega) (fun ht4 => ?_) (fun hf5 => ?_)
      · refine J_iconst (pc := 33) (v := nI 0) dX5_meets_33 (by decide) ?_
        exact J_zret (pc := 34) dX5_meets_34 rfl (nar_b (by first | decide | omega)) ⟨Or.inl ⟨rfl, (by exact fun ⟨i, hi, e⟩ => hv2_0 i (by omega) e)⟩, rfl⟩
      · refine J_aload_n (pc := 13) dX5_meets_13 rfl rfl rfl ?_
        refine J_get (pc := 14) (k := 0) dX5_meets_14 kC6 (by decide) ff_X5_14 h8 rfl ?_
        refine J_iload_n (pc := 17) dX5_meets_17 rfl rfl ?_
        refine J_callV0 (pc := 18) (M := mX5_meets) (as := [.int (nI c2)]) dX5_meets_18 fw_X1_thing fl_X5_53 fm_X1_thing fe_X1_thing h9 (by decide) rfl rfl rfl (c_X1_thing_at9x hs (d := d - 1) (Nat.le_trans (by decide) hdm) (w := w) (ml := ml) (tg := tg) (mn := mn) (wn := wn) ⟨h8, h9, h10, h11, hz11⟩ c2 (by first | assumption | omega) (kc := 0) (ks := 0)) hdp (st := []) (Nat.le_of_ble_eq_true rfl) rfl (kr_P fun v6 hv6 => ?_) kx_I
        subst hv6
        have hb := hy1 c2 (by omega)
        refine J_iload_n (pc := 21) dX5_meets_21 rfl rfl ?_
        refine J_icmp_neN (pc := 22) (tgt := 27) dX5_meets_22 (by decide) (by omega) (by omega) (fun ht7 => ?_) (fun hf8 => ?_)
        · refine J_iincN (pc := 27) (b := 1) dX5_meets_27 rfl (by decide) (by decide) rfl ?_
          show J X mX5_meets d kc ks 30 [some (.ref 8), some (.int (nI x)), some (.int (nI (c2 + 1)))] [] w _
          refine J_goto (pc := 30) (tgt := 2) dX5_meets_30 (by decide) ?_
          exact J_sub (L' := [some (.ref 8), some (.int (nI x)), some (.int (nI (c2 + 1)))]) ⟨rfl, ⟨rfl, ⟨rfl, trivial⟩⟩⟩ (ihlp2_1 (c2 + 1) (by intro i hi; by_cases e : i = c2; (rw [e]; assumption); (exact hv2_0 i (by omega))) (by first | assumption | omega) (by omega))
        · refine J_iconst (pc := 25) (v := nI 1) dX5_meets_25 (by decide) ?_
          exact J_zret (pc := 26) dX5_meets_26 rfl (nar_b (by first | decide | omega)) ⟨Or.inr (⟨rfl, (by exact ⟨c2, by omega, by assumption⟩)⟩), rfl⟩
  exact J_sub (L' := [some (.ref 8), some (.int (nI x)), some (.int (nI 0))]) ⟨rfl, ⟨rfl, ⟨rfl, trivial⟩⟩⟩ (lp2_1 _ 0 (by intro i hi; omega) (by first | assumption | omega) (Nat.lt_succ_self _))
set_option maxRecDepth 100000 in
set_option maxHeartbeats 4000000 in
theorem c_X5_howManyOfOrder_atx {X : jX} (hs : X.1.stackTraces = false) {d : Nat} (hd : 2 ≤ d) {ml : List Int32} {tg : Nat → Nat} {mn : Nat} {wn : Nat} {w : List jC} (hR : WM ml tg mn wn w) (o : Nat) (hy0 : mn ≤ 5040) (hy1 : ∀ i, i < mn → Mv wn (tg i)) (hy2 : o ≤ 12) {kc ks : Nat} : jMet X mX5_howManyOfOrder d kc ks [.ref 8, .int (nI o)] w (pI (fun v => v = nI (sm (fun i => if oC (tg i) = o then 1 else 0) mn)) (fun w' => w' = w)) := by
  refine jMet_of hs (by decide +kernel) (Nat.le_of_ble_eq_true rfl) (L := [some (.ref 8), some (.int (nI o)), none, none]) rfl ?_
  have hdm : 1 ≤ d - 1 := by omega
  have hdp : d - 1 + 1 ≤ d := by omega
  obtain ⟨h8, h9, h10, h11, hz11⟩ := hR
  have hF : FB 8 11 w w := FB.rf
  refine J_iconst (pc := 0) (v := nI 0) dX5_howManyOfOrder_0 (by decide) ?_
  refine J_istore_n (pc := 1) dX5_howManyOfOrder_1 rfl (by decide) rfl ?_
  show J X mX5_howManyOfOrder d kc ks 2 [some (.ref 8), some (.int (nI o)), some (.int (nI 0)), none] [] w _
  refine J_iconst (pc := 2) (v := nI 0) dX5_howManyOfOrder_2 (by decide) ?_
  refine J_istore_n (pc := 3) dX5_howManyOfOrder_3 rfl (by decide) rfl ?_
  show J X mX5_howManyOfOrder d kc ks 4 [some (.ref 8), some (.int (nI o)), some (.int (nI 0)), some (.int (nI 0))] [] w _
  have lp4_1 : ∀ (fuel : Nat) (c3 : Nat), (c3 ≤ mn) → (mn - c3 < fuel) → J X mX5_howManyOfOrder d kc ks 4 [some (.ref 8), some (.int (nI o)), some (.int (nI (sm (fun i => if oC (tg i) = o then 1 else 0) c3))), some (.int (nI c3))] [] w (pI (fun v => v = nI (sm (fun i => if oC (tg i) = o then 1 else 0) mn)) (fun w' => w' = w)) := by
    intro fuellp4_1
    induction fuellp4_1 with
    | zero => intros; omega
    | succ fuellp4_1 ihlp4_1 =>
      intro c3 hv4_0 hf2
      refine J_iload_n (pc := 4) dX5_howManyOfOrder_4 rfl rfl ?_
      refine J_aload_n (pc := 5) dX5_howManyOfOrder_5 rfl rfl rfl ?_
      refine J_get (pc := 6) (k := 0) dX5_howManyOfOrder_6 kC6 (by decide) ff_X5_14 h8 rfl ?_
      refine J_callV0 (pc := 9) (M := mX5_howManyOfOrder) (as := []) dX5_howManyOfOrder_9 fw_X1_length fl_X5_49 fm_X1_length fe_X1_length h9 (by decide) rfl rfl rfl (c_X1_length_at9x hs (d := d - 1) (Nat.le_trans (by decide) hdm) (w := w) (ml := ml) (tg := tg) (mn := mn) (wn := wn) ⟨h8, h9, h10, h11, hz11⟩  (kc := 0) (ks := 0)) hdp (st := [.int (nI c3)]) (Nat.le_of_ble_eq_true rfl) rfl (kr_P fun v3 hv3 => ?_) kx_I
      subst hv3
      refine J_icmp_geN (pc := 12) (tgt := 39) dX5_howManyOfOrder_12 (by decide) (by omega) (by omega) (fun ht4 => ?_) (fun hf5 => ?_)
      · refine J_iload_n (pc := 39) dX5_howManyOfOrder_39 rfl rfl ?_
        exact J_iret (pc := 40) dX5_howManyOfOrder_40 rfl ⟨(congrArg nI (by rw [show c3 = mn by omega])), rfl⟩
      · refine J_aload_n (pc := 15) dX5_howManyOfOrder_15 rfl rfl rfl ?_
        refine J_get (pc := 16) (k := 0) dX5_howManyOfOrder_16 kC6 (by decide) ff_X5_14 h8 rfl ?_
        refine J_iload_n (pc := 19) dX5_howManyOfOrder_19 rfl rfl ?_
        refine J_callV0 (pc := 20) (M := mX5_howManyOfOrder) (as := [.int (nI c3)]) dX5_howManyOfOrder_20 fw_X1_thing fl_X5_53 fm_X1_thing fe_X1_thing h9 (by decide) rfl rfl rfl (c_X1_thing_at9x hs (d := d - 1) (Nat.le_trans (by decide) hdm) (w := w) (ml := ml) (tg := tg) (mn := mn) (wn := wn) ⟨h8, h9, h10, h11, hz11⟩ c3 (by first | assumption | omega) (kc := 0) (ks := 0)) hdp (st := []) (Nat.le_of_ble_eq_true rfl) rfl (kr_P fun v6 hv6 => ?_) kx_I
        subst hv6
        refine J_callS0 (pc := 23) (M := mX5_howManyOfOrder) (as := [.int (nI (tg c3))]) dX5_howManyOfOrder_23 fw_X2_orderOf fl_X5_57 fs_X2_orderOf rfl (c_X2_orderOf_atx hs (d := d - 1) (Nat.le_trans (by decide) hdm) (w := w) (tg c3) (by exact (hy1 c3 (by omega)).1) (kc := 0) (ks := 0)) hdp (st := []) (Nat.le_of_ble_eq_true rfl) rfl (kr_P fun v7 hv7 => ?_) kx_I
        obtain ⟨k7, rfl, hk7⟩ := hv7
        obtain ⟨hk1, hk2, hk3⟩ := hk7
        refine J_iload_n (pc := 26) dX5_howManyOfOrder_26 rfl rfl ?_
        refine J_icmp_neN (pc := 27) (tgt := 33) dX5_howManyOfOrder_27 (by decide) (by omega) (by omega) (fun ht8 => ?_) (fun hf9 => ?_)
        · refine J_iincN (pc := 33) (b := 1) dX5_howManyOfOrder_33 rfl (by decide) (by decide) rfl ?_
          show J X mX5_howManyOfOrder d kc ks 36 [some (.ref 8), some (.int (nI o)), some (.int (nI (sm (fun i => if oC (tg i) = o then 1 else 0) c3))), some (.int (nI (c3 + 1)))] [] w _
          refine J_goto (pc := 36) (tgt := 4) dX5_howManyOfOrder_36 (by decide) ?_
          exact J_sub (L' := [some (.ref 8), some (.int (nI o)), some (.int (nI (sm (fun i => if oC (tg i) = o then 1 else 0) (c3 + 1)))), some (.int (nI (c3 + 1)))]) ⟨rfl, ⟨rfl, ⟨(congrArg (fun z => some (Value.int (nI z))) (show sm (fun i => if oC (tg i) = o then 1 else 0) c3 = sm (fun i => if oC (tg i) = o then 1 else 0) (c3 + 1) by first | exact sm_y (hk1.symm.trans (by assumption)) | exact sm_z (fun e => absurd (hk1.trans e) (by assumption)))), ⟨rfl, trivial⟩⟩⟩⟩ (ihlp4_1 (c3 + 1) (by first | assumption | omega) (by omega))
        · refine J_iincN (pc := 30) (b := 1) dX5_howManyOfOrder_30 rfl (by decide) (by decide) rfl ?_
          show J X mX5_howManyOfOrder d kc ks 33 [some (.ref 8), some (.int (nI o)), some (.int (nI ((sm (fun i => if oC (tg i) = o then 1 else 0) c3) + 1))), some (.int (nI c3))] [] w _
          refine J_iincN (pc := 33) (b := 1) dX5_howManyOfOrder_33 rfl (by decide) (by decide) rfl ?_
          show J X mX5_howManyOfOrder d kc ks 36 [some (.ref 8), some (.int (nI o)), some (.int (nI ((sm (fun i => if oC (tg i) = o then 1 else 0) c3) + 1))), some (.int (nI (c3 + 1)))] [] w _
          refine J_goto (pc := 36) (tgt := 4) dX5_howManyOfOrder_36 (by decide) ?_
          exact J_sub (L' := [some (.ref 8), some (.int (nI o)), some (.int (nI (sm (fun i => if oC (tg i) = o then 1 else 0) (c3 + 1)))), some (.int (nI (c3 + 1)))]) ⟨rfl, ⟨rfl, ⟨(congrArg (fun z => some (Value.int (nI z))) (show (sm (fun i => if oC (tg i) = o then 1 else 0) c3) + 1 = sm (fun i => if oC (tg i) = o then 1 else 0) (c3 + 1) by first | exact sm_y (hk1.symm.trans (by assumption)) | exact sm_z (fun e => absurd (hk1.trans e) (by assumption)))), ⟨rfl, trivial⟩⟩⟩⟩ (ihlp4_1 (c3 + 1) (by first | assumption | omega) (by omega))
  exact J_sub (L' := [some (.ref 8), some (.int (nI o)), some (.int (nI (sm (fun i => if oC (tg i) = o then 1 else 0) 0))), some (.int (nI 0))]) ⟨rfl, ⟨rfl, ⟨(congrArg (fun z => some (Value.int (nI z))) (show 0 = sm (fun i => if oC (tg i) = o then 1 else 0) 0 by rfl)), ⟨rfl, trivial⟩⟩⟩⟩ (lp4_1 _ 0 (by first | assumption | omega) (Nat.lt_succ_self _))
set_option maxRecDepth 100000 in
set_option maxHeartbeats 4000000 in
theorem c_X5_howManyEven_atx {X : jX} (hs : X.1.stackTraces = false) {d : Nat} (hd : 4 ≤ d) {ml : List Int32} {tg : Nat → Nat} {mn : Nat} {wn : Nat} {w : List jC} (hR : WM ml tg mn wn w) (hy0 : mn ≤ 5040) (hy1 : ∀ i, i < mn → Mv wn (tg i)) (hy2 : wn ≤ 7) {kc ks : Nat} : jMet X mX5_howManyEven d kc ks [.ref 8] w (pI (fun v => v = nI (sm (fun i => if sgC (tg i) wn = nI 1 then 1 else 0) mn)) (fun w' => w' = w)) := by
  refine jMet_of hs (by decide +kernel) (Nat.le_of_ble_eq_true rfl) (L := [some (.ref 8), none, none]) rfl ?_
  have hdm : 3 ≤ d - 1 := by omega
  have hdp : d - 1 + 1 ≤ d := by omega
  obtain ⟨h8, h9, h10, h11, hz11⟩ := hR
  have hF : FB 8 11 w w := FB.rf
  refine J_iconst (pc := 0) (v := nI 0) dX5_howManyEven_0 (by decide) ?_
  refine J_istore_n (pc := 1) dX5_howManyEven_1 rfl (by decide) rfl ?_
  show J X mX5_howManyEven d kc ks 2 [some (.ref 8), some (.int (nI 0)), none] [] w _
  refine J_iconst (pc := 2) (v := nI 0) dX5_howManyEven_2 (by decide) ?_
  refine J_istore_n (pc := 3) dX5_howManyEven_3 rfl (by decide) rfl ?_
  show J X mX5_howManyEven d kc ks 4 [some (.ref 8), some (.int (nI 0)), some (.int (nI 0))] [] w _
  have lp4_1 : ∀ (fuel : Nat) (c2 : Nat), (c2 ≤ mn) → (mn - c2 < fuel) → J X mX5_howManyEven d kc ks 4 [some (.ref 8), some (.int (nI (sm (fun i => if sgC (tg i) wn = nI 1 then 1 else 0) c2))), some (.int (nI c2))] [] w (pI (fun v => v = nI (sm (fun i => if sgC (tg i) wn = nI 1 then 1 else 0) mn)) (fun w' => w' = w)) := by
    intro fuellp4_1
    induction fuellp4_1 with
    | zero => intros; omega
    | succ fuellp4_1 ihlp4_1 =>
      intro c2 hv4_0 hf2
      refine J_iload_n (pc := 4) dX5_howManyEven_4 rfl rfl ?_
      refine J_aload_n (pc := 5) dX5_howManyEven_5 rfl rfl rfl ?_
      refine J_get (pc := 6) (k := 0) dX5_howManyEven_6 kC6 (by decide) ff_X5_14 h8 rfl ?_
      refine J_callV0 (pc := 9) (M := mX5_howManyEven) (as := []) dX5_howManyEven_9 fw_X1_length fl_X5_49 fm_X1_length fe_X1_length h9 (by decide) rfl rfl rfl (c_X1_length_at9x hs (d := d - 1) (Nat.le_trans (by decide) hdm) (w := w) (ml := ml) (tg := tg) (mn := mn) (wn := wn) ⟨h8, h9, h10, h11, hz11⟩  (kc := 0) (ks := 0)) hdp (st := [.int (nI c2)]) (Nat.le_of_ble_eq_true rfl) rfl (kr_P fun v3 hv3 => ?_) kx_I
      subst hv3
      refine J_icmp_geN (pc := 12) (tgt := 43) dX5_howManyEven_12 (by decide) (by omega) (by omega) (fun ht4 => ?_) (fun hf5 => ?_)
      · refine J_iload_n (pc := 43) dX5_howManyEven_43 rfl rfl ?_
        exact J_iret (pc := 44) dX5_howManyEven_44 rfl ⟨(congrArg nI (by rw [show c2 = mn by omega])), rfl⟩
      · refine J_aload_n (pc := 15) dX5_howManyEven_15 rfl rfl rfl ?_
        refine J_get (pc := 16) (k := 0) dX5_howManyEven_16 kC6 (by decide) ff_X5_14 h8 rfl ?_
        refine J_iload_n (pc := 19) dX5_howManyEven_19 rfl rfl ?_
        refine J_callV0 (pc := 20) (M := mX5_howManyEven) (as := [.int (nI c2)]) dX5_howManyEven_20 fw_X1_thing fl_X5_53 fm_X1_thing fe_X1_thing h9 (by decide) rfl rfl rfl (c_X1_thing_at9x hs (d := d - 1) (Nat.le_trans (by decide) hdm) (w := w) (ml := ml) (tg := tg) (mn := mn) (wn := wn) ⟨h8, h9, h10, h11, hz11⟩ c2 (by first | assumption | omega) (kc := 0) (ks := 0)) hdp (st := []) (Nat.le_of_ble_eq_true rfl) rfl (kr_P fun v6 hv6 => ?_) kx_I
        subst hv6
        refine J_aload_n (pc := 23) dX5_howManyEven_23 rfl rfl rfl ?_
        refine J_get (pc := 24) (k := 1) dX5_howManyEven_24 kC6 (by decide) ff_X5_20 h8 rfl ?_
        refine J_callS0 (pc := 27) (M := mX5_howManyEven) (as := [.int (nI (tg c2)), .int (nI wn)]) dX5_howManyEven_27 fw_X2_signOf fl_X5_60 fs_X2_signOf rfl (c_X2_signOf_atx hs (d := d - 1) (Nat.le_trans (by decide) hdm) (w := w) (tg c2) wn (by exact (hy1 c2 (by omega)).1) (by exact (hy1 c2 (by omega)).P7 hy2) (by exact hy2) (kc := 0) (ks := 0)) hdp (st := []) (Nat.le_of_ble_eq_true rfl) rfl (kr_P fun v7 hv7 => ?_) kx_I
        subst hv7
        refine J_iconst (pc := 30) (v := nI 1) dX5_howManyEven_30 (by decide) ?_
        refine J_icmp_ne (pc := 31) (tgt := 37) dX5_howManyEven_31 (by decide) (fun ht8 => ?_) (fun hf9 => ?_)
        · refine J_iincN (pc := 37) (b := 1) dX5_howManyEven_37 rfl (by decide) (by decide) rfl ?_
          show J X mX5_howManyEven d kc ks 40 [some (.ref 8), some (.int (nI (sm (fun i => if sgC (tg i) wn = nI 1 then 1 else 0) c2))), some (.int (nI (c2 + 1)))] [] w _
          refine J_goto (pc := 40) (tgt := 4) dX5_howManyEven_40 (by decide) ?_
          exact J_sub (L' := [some (.ref 8), some (.int (nI (sm (fun i => if sgC (tg i) wn = nI 1 then 1 else 0) (c2 + 1)))), some (.int (nI (c2 + 1)))]) ⟨rfl, ⟨(congrArg (fun z => some (Value.int (nI z))) (show sm (fun i => if sgC (tg i) wn = nI 1 then 1 else 0) c2 = sm (fun i => if sgC (tg i) wn = nI 1 then 1 else 0) (c2 + 1) by first | exact sm_y (by assumption) | exact sm_z (by assumption))), ⟨rfl, trivial⟩⟩⟩ (ihlp4_1 (c2 + 1) (by first | assumption | omega) (by omega))
        · refine J_iincN (pc := 34) (b := 1) dX5_howManyEven_34 rfl (by decide) (by decide) rfl ?_
          show J X mX5_howManyEven d kc ks 37 [some (.ref 8), some (.int (nI ((sm (fun i => if sgC (tg i) wn = nI 1 then 1 else 0) c2) + 1))), some (.int (nI c2))] [] w _
          refine J_iincN (pc := 37) (b := 1) dX5_howManyEven_37 rfl (by decide) (by decide) rfl ?_
          show J X mX5_howManyEven d kc ks 40 [some (.ref 8), some (.int (nI ((sm (fun i => if sgC (tg i) wn = nI 1 then 1 else 0) c2) + 1))), some (.int (nI (c2 + 1)))] [] w _
          refine J_goto (pc := 40) (tgt := 4) dX5_howManyEven_40 (by decide) ?_
          exact J_sub (L' := [some (.ref 8), some (.int (nI (sm (fun i => if sgC (tg i) wn = nI 1 then 1 else 0) (c2 + 1)))), some (.int (nI (c2 + 1)))]) ⟨rfl, ⟨(congrArg (fun z => some (Value.int (nI z))) (show (sm (fun i => if sgC (tg i) wn = nI 1 then 1 else 0) c2) + 1 = sm (fun i => if sgC (tg i) wn = nI 1 then 1 else 0) (c2 + 1) by first | exact sm_y (by assumption) | exact sm_z (by assumption))), ⟨rfl, trivial⟩⟩⟩ (ihlp4_1 (c2 + 1) (by first | assumption | omega) (by omega))
  exact J_sub (L' := [some (.ref 8), some (.int (nI (sm (fun i => if sgC (tg i) wn = nI 1 then 1 else 0) 0))), some (.int (nI 0))]) ⟨rfl, ⟨(congrArg (fun z => some (Value.int (nI z))) (show 0 = sm (fun i => if sgC (tg i) wn = nI 1 then 1 else 0) 0 by rfl)), ⟨rfl, trivial⟩⟩⟩ (lp4_1 _ 0 (by first | assumption | omega) (Nat.lt_succ_self _))
set_option maxRecDepth 100000 in
set_option maxHeartbeats 4000000 in
theorem c_X5_colouringsByMean_atx {X : jX} (hs : X.1.stackTraces = false) {d : Nat} (hd : 3 ≤ d) {ml : List Int32} {tg : Nat → Nat} {mn : Nat} {wn : Nat} {w : List jC} (hR : WM ml tg mn wn w) (co : Nat) (hy0 : mn ≤ 5040) (hy1 : ∀ i, i < mn → Mv wn (tg i)) (hy2 : wn ≤ 7) (hy3 : 1 ≤ mn) (hy4 : co ≤ 3) {kc ks : Nat} : jMet X mX5_colouringsByMean d kc ks [.ref 8, .int (nI co)] w (pI (fun v => v = nI (sm (fun i => co ^ hr (tg i) wn) mn / mn)) (fun w' => w' = w)) := by
  refine jMet_of hs (by decide +kernel) (Nat.le_of_ble_eq_true rfl) (L := [some (.ref 8), some (.int (nI co)), none, none, none, none]) rfl ?_
  have hdm : 2 ≤ d - 1 := by omega
  have hdp : d - 1 + 1 ≤ d := by omega
  obtain ⟨h8, h9, h10, h11, hz11⟩ := hR
  have hF : FB 8 11 w w := FB.rf
  refine J_iconst (pc := 0) (v := nI 0) dX5_colouringsByMean_0 (by decide) ?_
  refine J_istore_n (pc := 1) dX5_colouringsByMean_1 rfl (by decide) rfl ?_
  show J X mX5_colouringsByMean d kc ks 2 [some (.ref 8), some (.int (nI co)), some (.int (nI 0)), none, none, none] [] w _
  refine J_iconst (pc := 2) (v := nI 0) dX5_colouringsByMean_2 (by decide) ?_
  refine J_istore_n (pc := 3) dX5_colouringsByMean_3 rfl (by decide) rfl ?_
  show J X mX5_colouringsByMean d kc ks 4 [some (.ref 8), some (.int (nI co)), some (.int (nI 0)), some (.int (nI 0)), none, none] [] w _
  have lp4_1 : ∀ (fuel : Nat) (c3 : Nat), (c3 ≤ mn) → (mn - c3 < fuel) → J X mX5_colouringsByMean d kc ks 4 [some (.ref 8), some (.int (nI co)), some (.int (nI (sm (fun i => co ^ hr (tg i) wn) c3))), some (.int (nI c3)), none, none] [] w (pI (fun v => v = nI (sm (fun i => co ^ hr (tg i) wn) mn / mn)) (fun w' => w' = w)) := by
    intro fuellp4_1
    induction fuellp4_1 with
    | zero => intros; omega
    | succ fuellp4_1 ihlp4_1 =>
      intro c3 hv4_0 hf2
      refine J_iload_n (pc := 4) dX5_colouringsByMean_4 rfl rfl ?_
      refine J_aload_n (pc := 5) dX5_colouringsByMean_5 rfl rfl rfl ?_
      refine J_get (pc := 6) (k := 0) dX5_colouringsByMean_6 kC6 (by decide) ff_X5_14 h8 rfl ?_
      refine J_callV0 (pc := 9) (M := mX5_colouringsByMean) (as := []) dX5_colouringsByMean_9 fw_X1_length fl_X5_49 fm_X1_length fe_X1_length h9 (by decide) rfl rfl rfl (c_X1_length_at9x hs (d := d - 1) (Nat.le_trans (by decide) hdm) (w := w) (ml := ml) (tg := tg) (mn := mn) (wn := wn) ⟨h8, h9, h10, h11, hz11⟩  (kc := 0) (ks := 0)) hdp (st := [.int (nI c3)]) (Nat.le_of_ble_eq_true rfl) rfl (kr_P fun v3 hv3 => ?_) kx_I
      subst hv3
      refine J_icmp_geN (pc := 12) (tgt := 63) dX5_colouringsByMean_12 (by decide) (by omega) (by omega) (fun ht4 => ?_) (fun hf5 => ?_)
      · refine J_iload_n (pc := 63) dX5_colouringsByMean_63 rfl rfl ?_
        refine J_aload_n (pc := 64) dX5_colouringsByMean_64 rfl rfl rfl ?_
        refine J_get (pc := 65) (k := 0) dX5_colouringsByMean_65 kC6 (by decide) ff_X5_14 h8 rfl ?_
        refine J_callV0 (pc := 68) (M := mX5_colouringsByMean) (as := []) dX5_colouringsByMean_68 fw_X1_length fl_X5_49 fm_X1_length fe_X1_length h9 (by decide) rfl rfl rfl (c_X1_length_at9x hs (d := d - 1) (Nat.le_trans (by decide) hdm) (w := w) (ml := ml) (tg := tg) (mn := mn) (wn := wn) ⟨h8, h9, h10, h11, hz11⟩  (kc := 0) (ks := 0)) hdp (st := [.int (nI (sm (fun i => co ^ hr (tg i) wn) c3))]) (Nat.le_of_ble_eq_true rfl) rfl (kr_P fun v6 hv6 => ?_) kx_I
        subst hv6
        refine J_callSN0 (pc := 71) (M := mX5_colouringsByMean) (as := [.int (nI (sm (fun i => co ^ hr (tg i) wn) c3)), .int (nI mn)]) dX5_colouringsByMean_71 fw_X6_quotient fl_X5_66 fs_X6_quotient rfl (c_X6_quotient_atx hs (d := d - 1) (Nat.le_trans (by decide) hdm) (w := w) (sm (fun i => co ^ hr (tg i) wn) c3) mn (by rw [show c3 = mn by omega]; exact mean_31 hy0 hy2 hy4) (by omega) (by omega) (kc := 0) (ks := 0)) hdp (st := []) (Nat.le_of_ble_eq_true rfl) rfl (kr_P fun v7 hv7 => ?_) kx_I
        subst hv7
        exact J_iret (pc := 74) dX5_colouringsByMean_74 rfl ⟨(congrArg nI (by rw [show c3 = mn by omega])), rfl⟩
      · refine J_iconst (pc := 15) (v := nI 1) dX5_colouringsByMean_15 (by decide) ?_
        refine J_istore (pc := 16) dX5_colouringsByMean_16 (by decide) rfl ?_
        show J X mX5_colouringsByMean d kc ks 18 [some (.ref 8), some (.int (nI co)), some (.int (nI (sm (fun i => co ^ hr (tg i) wn) c3))), some (.int (nI c3)), some (.int (nI 1)), none] [] w _
        refine J_aload_n (pc := 18) dX5_colouringsByMean_18 rfl rfl rfl ?_
        refine J_get (pc := 19) (k := 0) dX5_colouringsByMean_19 kC6 (by decide) ff_X5_14 h8 rfl ?_
        refine J_iload_n (pc := 22) dX5_colouringsByMean_22 rfl rfl ?_
        refine J_callV0 (pc := 23) (M := mX5_colouringsByMean) (as := [.int (nI c3)]) dX5_colouringsByMean_23 fw_X1_thing fl_X5_53 fm_X1_thing fe_X1_thing h9 (by decide) rfl rfl rfl (c_X1_thing_at9x hs (d := d - 1) (Nat.le_trans (by decide) hdm) (w := w) (ml := ml) (tg := tg) (mn := mn) (wn := wn) ⟨h8, h9, h10, h11, hz11⟩ c3 (by first | assumption | omega) (kc := 0) (ks := 0)) hdp (st := []) (Nat.le_of_ble_eq_true rfl) rfl (kr_P fun v8 hv8 => ?_) kx_I
        subst hv8
        refine J_aload_n (pc := 26) dX5_colouringsByMean_26 rfl rfl rfl ?_
        refine J_get (pc := 27) (k := 1) dX5_colouringsByMean_27 kC6 (by decide) ff_X5_20 h8 rfl ?_
        refine J_callS0 (pc := 30) (M := mX5_colouringsByMean) (as := [.int (nI (tg c3)), .int (nI wn)]) dX5_colouringsByMean_30 fw_X2_howManyRings fl_X5_63 fs_X2_howManyRings rfl (c_X2_howManyRings_atx hs (d := d - 1) (Nat.le_trans (by decide) hdm) (w := w) (tg c3) wn (by exact (hy1 c3 (by omega)).1) (by exact (hy1 c3 (by omega)).P7 hy2) (by exact hy2) (kc := 0) (ks := 0)) hdp (st := []) (Nat.le_of_ble_eq_true rfl) rfl (kr_P fun v9 hv9 => ?_) kx_I
        subst hv9
        have hrb := hr_le (tg c3) wn
        refine J_istore (pc := 33) dX5_colouringsByMean_33 (by decide) rfl ?_
        show J X mX5_colouringsByMean d kc ks 35 [some (.ref 8), some (.int (nI co)), some (.int (nI (sm (fun i => co ^ hr (tg i) wn) c3))), some (.int (nI c3)), some (.int (nI 1)), some (.int (nI (hr (tg c3) wn)))] [] w _
        have lp35_10 : ∀ (fuel : Nat) (y4 : Nat) (c5 : Nat), (y4 * co ^ c5 = co ^ hr (tg c3) wn) → (c5 ≤ 7) → (c5 < fuel) → J X mX5_colouringsByMean d kc ks 35 [some (.ref 8), some (.int (nI co)), some (.int (nI (sm (fun i => co ^ hr (tg i) wn) c3))), some (.int (nI c3)), some (.int (nI y4)), some (.int (nI c5))] [] w (pI (fun v => v = nI (sm (fun i => co ^ hr (tg i) wn) mn / mn)) (fun w' => w' = w)) := by
          intro fuellp35_10
          induction fuellp35_10 with
          | zero => intros; omega
          | succ fuellp35_10 ihlp35_10 =>
            intro y4 c5 hv35_0 hv35_1 hf11
            refine J_iload (pc := 35) dX5_colouringsByMean_35 rfl ?_
            refine J_if_leN (pc := 37) (tgt := 52) dX5_colouringsByMean_37 (by decide) (by omega) (fun ht12 => ?_) (fun hf13 => ?_)
            · refine J_iload_n (pc := 52) dX5_colouringsByMean_52 rfl rfl ?_
              refine J_iload (pc := 53) dX5_colouringsByMean_53 rfl ?_
              refine J_iaddN (pc := 55) dX5_colouringsByMean_55 ?_
              refine J_istore_n (pc := 56) dX5_colouringsByMean_56 rfl (by decide) rfl ?_
              show J X mX5_colouringsByMean d kc ks 57 [some (.ref 8), some (.int (nI co)), some (.int (nI ((sm (fun i => co ^ hr (tg i) wn) c3) + y4))), some (.int (nI c3)), some (.int (nI y4)), some (.int (nI c5))] [] w _
              refine J_iincN (pc := 57) (b := 1) dX5_colouringsByMean_57 rfl (by decide) (by decide) rfl ?_
              show J X mX5_colouringsByMean d kc ks 60 [some (.ref 8), some (.int (nI co)), some (.int (nI ((sm (fun i => co ^ hr (tg i) wn) c3) + y4))), some (.int (nI (c3 + 1))), some (.int (nI y4)), some (.int (nI c5))] [] w _
              refine J_goto (pc := 60) (tgt := 4) dX5_colouringsByMean_60 (by decide) ?_
              exact J_sub (L' := [some (.ref 8), some (.int (nI co)), some (.int (nI (sm (fun i => co ^ hr (tg i) wn) (c3 + 1)))), some (.int (nI (c3 + 1))), none, none]) ⟨rfl, ⟨rfl, ⟨(congrArg (fun z => some (Value.int (nI z))) (show (sm (fun i => co ^ hr (tg i) wn) c3) + y4 = sm (fun i => co ^ hr (tg i) wn) (c3 + 1) by show sm (fun i => co ^ hr (tg i) wn) c3 + y4 = sm (fun i => co ^ hr (tg i) wn) c3 + co ^ hr (tg c3) wn; rw [← hv35_0, show c5 = 0 by omega, Nat.pow_zero, Nat.mul_one])), ⟨rfl, trivial⟩⟩⟩⟩ (ihlp4_1 (c3 + 1) (by first | assumption | omega) (by omega))
            · refine J_iload (pc := 40) dX5_colouringsByMean_40 rfl ?_
              refine J_iload_n (pc := 42) dX5_colouringsByMean_42 rfl rfl ?_
              refine J_imulN (pc := 43) dX5_colouringsByMean_43 ?_
              refine J_istore (pc := 44) dX5_colouringsByMean_44 (by decide) rfl ?_
              show J X mX5_colouringsByMean d kc ks 46 [some (.ref 8), some (.int (nI co)), some (.int (nI (sm (fun i => co ^ hr (tg i) wn) c3))), some (.int (nI c3)), some (.int (nI (y4 * co))), some (.int (nI c5))] [] w _
              refine J_iincM (pc := 46) dX5_colouringsByMean_46 rfl (by omega) (by decide) rfl ?_
              show J X mX5_colouringsByMean d kc ks 49 [some (.ref 8), some (.int (nI co)), some (.int (nI (sm (fun i => co ^ hr (tg i) wn) c3))), some (.int (nI c3)), some (.int (nI (y4 * co))), some (.int (nI (c5 - 1)))] [] w _
              refine J_goto (pc := 49) (tgt := 35) dX5_colouringsByMean_49 (by decide) ?_
              exact J_sub (L' := [some (.ref 8), some (.int (nI co)), some (.int (nI (sm (fun i => co ^ hr (tg i) wn) c3))), some (.int (nI c3)), some (.int (nI (y4 * co))), some (.int (nI (c5 - 1)))]) ⟨rfl, ⟨rfl, ⟨rfl, ⟨rfl, ⟨rfl, ⟨rfl, trivial⟩⟩⟩⟩⟩⟩ (ihlp35_10 (y4 * co) (c5 - 1) (by rw [← hv35_0]; exact pow_dn (by omega)) (by omega) (by omega))
        exact J_sub (L' := [some (.ref 8), some (.int (nI co)), some (.int (nI (sm (fun i => co ^ hr (tg i) wn) c3))), some (.int (nI c3)), some (.int (nI 1)), some (.int (nI (hr (tg c3) wn)))]) ⟨rfl, ⟨rfl, ⟨rfl, ⟨rfl, ⟨rfl, ⟨rfl, trivial⟩⟩⟩⟩⟩⟩ (lp35_10 _ 1 (hr (tg c3) wn) (by exact Nat.one_mul _) (by omega) (Nat.lt_succ_self _))
  exact J_sub (L' := [some (.ref 8), some (.int (nI co)), some (.int (nI (sm (fun i => co ^ hr (tg i) wn) 0))), some (.int (nI 0)), none, none]) ⟨rfl, ⟨rfl, ⟨(congrArg (fun z => some (Value.int (nI z))) (show 0 = sm (fun i => co ^ hr (tg i) wn) 0 by rfl)), ⟨rfl, trivial⟩⟩⟩⟩ (lp4_1 _ 0 (by first | assumption | omega) (Nat.lt_succ_self _))
set_option maxRecDepth 100000 in
set_option maxHeartbeats 4000000 in
theorem c_X5_spread_atx {X : jX} (hs : X.1.stackTraces = false) {d : Nat} (hd : 3 ≤ d) {ml : List Int32} {tg : Nat → Nat} {mn : Nat} {wn : Nat} {w : List jC} (hR : WM ml tg mn wn w) {cm : Nat → Nat} (h1 : w[1]? = some (aF 6 cm)) (s : Nat) (hy0 : 2 ≤ wn) (hy1 : wn ≤ 7) (hy2 : FI wn ml tg mn) (hy3 : ∀ c, c < 6 → Mv wn (cm c)) (hy4 : s < 64) {kc ks : Nat} : jMet X mX5_spread d kc ks [.ref 8, .ref 1, .int (nI s)] w (pV (fun w' => ∃ (ml' : List Int32), ∃ (tg' : Nat → Nat), ∃ (mn' : Nat), WM ml' tg' mn' wn w' ∧ FB 8 11 w w' ∧ (FI wn ml' tg' mn') ∧ (SC wn cm s ml' tg' mn') ∧ (SG wn cm s ml ml'))) := by
  refine jMet_of hs (by decide +kernel) (Nat.le_of_ble_eq_true rfl) (L := [some (.ref 8), some (.ref 1), some (.int (nI s)), none, none, none]) rfl ?_
  have hdm : 2 ≤ d - 1 := by omega
  have hdp : d - 1 + 1 ≤ d := by omega
  obtain ⟨h8, h9, h10, h11, hz11⟩ := hR
  have hF : FB 8 11 w w := FB.rf
  refine J_iconst (pc := 0) (v := nI 0) dX5_spread_0 (by decide) ?_
  refine J_istore_n (pc := 1) dX5_spread_1 rfl (by decide) rfl ?_
  show J X mX5_spread d kc ks 2 [some (.ref 8), some (.ref 1), some (.int (nI s)), some (.int (nI 0)), none, none] [] w _
  have lp2_1 : ∀ (fuel : Nat) (w2 : List jC) (ml_2 : List Int32) (tg_2 : Nat → Nat) (mn_2 : Nat) (c3 : Nat), (WM ml_2 tg_2 mn_2 wn w2) → (FB 8 11 w w2) → (FI wn ml_2 tg_2 mn_2) → (SC wn cm s ml_2 tg_2 c3) → (SG wn cm s ml ml_2) → (c3 ≤ mn_2) → (5040 - c3 < fuel) → J X mX5_spread d kc ks 2 [some (.ref 8), some (.ref 1), some (.int (nI s)), some (.int (nI c3)), none, none] [] w2 (pV (fun w' => ∃ (ml' : List Int32), ∃ (tg' : Nat → Nat), ∃ (mn' : Nat), WM ml' tg' mn' wn w' ∧ FB 8 11 w w' ∧ (FI wn ml' tg' mn') ∧ (SC wn cm s ml' tg' mn') ∧ (SG wn cm s ml ml'))) := by
    intro fuellp2_1
    induction fuellp2_1 with
    | zero => intros; omega
    | succ fuellp2_1 ihlp2_1 =>
      intro w2 ml_2 tg_2 mn_2 c3 hR3 hF4 hv2_0 hv2_1 hv2_2 hv2_3 hf5
      obtain ⟨h8_6, h9_6, h10_6, h11_6, hz11_6⟩ := hR3
      have h1_6 := (hF4.2 1 (by decide)).trans h1
      refine J_iload_n (pc := 2) dX5_spread_2 rfl rfl ?_
      refine J_sipush (pc := 3) (v := nI 5040) dX5_spread_3 (by decide) ?_
      have hmf := Nat.le_trans (FI_le hv2_0) (fc_7 hy1)
      refine J_icmp_geN (pc := 6) (tgt := 87) dX5_spread_6 (by decide) (by omega) (by omega) (fun ht7 => ?_) (fun hf8 => ?_)
      · exact J_vret (pc := 87) dX5_spread_87 rfl (⟨ml_2, tg_2, mn_2, ⟨h8_6, h9_6, h10_6, h11_6, hz11_6⟩, hF4, (by exact hv2_0), (by exact fun i hi => hv2_1 i (by have := FI_le hv2_0; have := fc_7 hy1; omega)), (by exact hv2_2)⟩)
      · refine J_iload_n (pc := 9) dX5_spread_9 rfl rfl ?_
        refine J_aload_n (pc := 10) dX5_spread_10 rfl rfl rfl ?_
        refine J_get (pc := 11) (k := 0) dX5_spread_11 kC6 (by decide) ff_X5_14 h8_6 rfl ?_
        refine J_callV0 (pc := 14) (M := mX5_spread) (as := []) dX5_spread_14 fw_X1_length fl_X5_49 fm_X1_length fe_X1_length h9_6 (by decide) rfl rfl rfl (c_X1_length_at9x hs (d := d - 1) (Nat.le_trans (by decide) hdm) (w := w2) (ml := ml_2) (tg := tg_2) (mn := mn_2) (wn := wn) ⟨h8_6, h9_6, h10_6, h11_6, hz11_6⟩  (kc := 0) (ks := 0)) hdp (st := [.int (nI c3)]) (Nat.le_of_ble_eq_true rfl) rfl (kr_P fun v9 hv9 => ?_) kx_I
        subst hv9
        refine J_icmp_geN (pc := 17) (tgt := 87) dX5_spread_17 (by decide) (by omega) (by omega) (fun ht10 => ?_) (fun hf11 => ?_)
        · exact J_vret (pc := 87) dX5_spread_87 rfl (⟨ml_2, tg_2, mn_2, ⟨h8_6, h9_6, h10_6, h11_6, hz11_6⟩, hF4, (by exact hv2_0), (by exact fun i hi => hv2_1 i (by have := FI_le hv2_0; have := fc_7 hy1; omega)), (by exact hv2_2)⟩)
        · refine J_iconst (pc := 20) (v := nI 0) dX5_spread_20 (by decide) ?_
          refine J_istore (pc := 21) dX5_spread_21 (by decide) rfl ?_
          show J X mX5_spread d kc ks 23 [some (.ref 8), some (.ref 1), some (.int (nI s)), some (.int (nI c3)), some (.int (nI 0)), none] [] w2 _
          have lp23_12 : ∀ (fuel : Nat) (w13 : List jC) (ml_23 : List Int32) (tg_23 : Nat → Nat) (mn_23 : Nat) (c4 : Nat), (WM ml_23 tg_23 mn_23 wn w13) → (FB 8 11 w w13) → (FI wn ml_23 tg_23 mn_23) → (SC wn cm s ml_23 tg_23 c3) → (SG wn cm s ml ml_23) → (SD wn cm s ml_23 (tg_23 c3) c4) → (c3 < mn_23) → (c4 ≤ 6) → (6 - c4 < fuel) → J X mX5_spread d kc ks 23 [some (.ref 8), some (.ref 1), some (.int (nI s)), some (.int (nI c3)), some (.int (nI c4)), none] [] w13 (pV (fun w' => ∃ (ml' : List Int32), ∃ (tg' : Nat → Nat), ∃ (mn' : Nat), WM ml' tg' mn' wn w' ∧ FB 8 11 w w' ∧ (FI wn ml' tg' mn') ∧ (SC wn cm s ml' tg' mn') ∧ (SG wn cm s ml ml'))) := by
            intro fuellp23_12
            induction fuellp23_12 with
            | zero => intros; omega
            | succ fuellp23_12 ihlp23_12 =>
              intro w13 ml_23 tg_23 mn_23 c4 hR14 hF15 hv23_0 hv23_1 hv23_2 hv23_3 hv23_4 hv23_5 hf16
              obtain ⟨h8_17, h9_17, h10_17, h11_17, hz11_17⟩ := hR14
              have h1_17 := (hF15.2 1 (by decide)).trans h1
              refine J_iload (pc := 23) dX5_spread_23 rfl ?_
              refine J_aload_n (pc := 25) dX5_spread_25 rfl rfl rfl ?_
              refine J_alen (pc := 26) (n := nI 6) dX5_spread_26 h1_17 (by decide) (by rw [List.length_map, List.length_range]; rfl) ?_
              refine J_icmp_geN (pc := 27) (tgt := 81) dX5_spread_27 (by decide) (by omega) (by omega) (fun ht18 => ?_) (fun hf19 => ?_)
              · refine J_iincN (pc := 81) (b := 1) dX5_spread_81 rfl (by decide) (by decide) rfl ?_
                show J X mX5_spread d kc ks 84 [some (.ref 8), some (.ref 1), some (.int (nI s)), some (.int (nI (c3 + 1))), some (.int (nI c4)), none] [] w13 _
                refine J_goto (pc := 84) (tgt := 2) dX5_spread_84 (by decide) ?_
                exact J_sub (L' := [some (.ref 8), some (.ref 1), some (.int (nI s)), some (.int (nI (c3 + 1))), none, none]) ⟨rfl, ⟨rfl, ⟨rfl, ⟨rfl, trivial⟩⟩⟩⟩ (ihlp2_1 w13 ml_23 tg_23 mn_23 (c3 + 1) ⟨h8_17, h9_17, h10_17, h11_17, hz11_17⟩ hF15 (by exact hv23_0) (by exact SC_s hv23_1 hv23_3 (by omega)) (by exact hv23_2) (by omega) (by omega))
              · refine J_iload_n (pc := 30) dX5_spread_30 rfl rfl ?_
                refine J_iload (pc := 31) dX5_spread_31 rfl ?_
                refine J_callSN0 (pc := 33) (M := mX5_spread) (as := [.int (nI s), .int (nI c4)]) dX5_spread_33 fw_X6_has fl_X5_38 fs_X6_has rfl (c_X6_has_atx hs (d := d - 1) (Nat.le_trans (by decide) hdm) (w := w13) s c4 (by omega) (by omega) (kc := 0) (ks := 0)) hdp (st := []) (Nat.le_of_ble_eq_true rfl) rfl (kr_P fun v20 hv20 => ?_) kx_I
                rcases hv20 with ⟨rfl, hk20_0⟩ | ⟨rfl, hk20_0⟩
                · refine J_if_eqN (pc := 36) (tgt := 75) dX5_spread_36 (by decide) (by decide) (fun _ => ?_) (fun h => absurd h (by decide))
                  refine J_iincN (pc := 75) (b := 1) dX5_spread_75 rfl (by decide) (by decide) rfl ?_
                  show J X mX5_spread d kc ks 78 [some (.ref 8), some (.ref 1), some (.int (nI s)), some (.int (nI c3)), some (.int (nI (c4 + 1))), none] [] w13 _
                  refine J_goto (pc := 78) (tgt := 23) dX5_spread_78 (by decide) ?_
                  exact J_sub (L' := [some (.ref 8), some (.ref 1), some (.int (nI s)), some (.int (nI c3)), some (.int (nI (c4 + 1))), none]) ⟨rfl, ⟨rfl, ⟨rfl, ⟨rfl, ⟨rfl, trivial⟩⟩⟩⟩⟩ (ihlp23_12 w13 ml_23 tg_23 mn_23 (c4 + 1) ⟨h8_17, h9_17, h10_17, h11_17, hz11_17⟩ hF15 (by first | exact hf1 | exact hv23_0) (by first | exact SC_k hv23_1 (by omega) ⟨hf2, hf3, hf4⟩ | exact hv23_1) (by first | exact SG_k (by omega) hy1 hv23_2 hv23_0 (by omega) hf2 hnu (by omega) (by assumption) hy3 | exact hv23_2) (by first | exact SD_k hv23_3 (by omega) ⟨hf2, hf3, hf4⟩ hnu | exact SD_n hv23_3 (by assumption)) (by omega) (by first | assumption | omega) (by omega))
                · refine J_if_eqN (pc := 36) (tgt := 75) dX5_spread_36 (by decide) (by decide) (fun h => absurd h (by decide)) (fun _ => ?_)
                  refine J_aload_n (pc := 39) dX5_spread_39 rfl rfl rfl ?_
                  refine J_get (pc := 40) (k := 0) dX5_spread_40 kC6 (by decide) ff_X5_14 h8_17 rfl ?_
                  refine J_iload_n (pc := 43) dX5_spread_43 rfl rfl ?_
                  have hmv := (hv23_0.1 c3 (by omega)).1
                  have hcc := hy3 c4 (by omega)
                  have hnu := nu_c7 hy1 hmv hcc
                  refine J_callV0 (pc := 44) (M := mX5_spread) (as := [.int (nI c3)]) dX5_spread_44 fw_X1_thing fl_X5_53 fm_X1_thing fe_X1_thing h9_17 (by decide) rfl rfl rfl (c_X1_thing_at9x hs (d := d - 1) (Nat.le_trans (by decide) hdm) (w := w13) (ml := ml_23) (tg := tg_23) (mn := mn_23) (wn := wn) ⟨h8_17, h9_17, h10_17, h11_17, hz11_17⟩ c3 (by omega) (kc := 0) (ks := 0)) hdp (st := []) (Nat.le_of_ble_eq_true rfl) rfl (kr_P fun v21 hv21 => ?_) kx_I
                  subst hv21
                  refine J_aload_n (pc := 47) dX5_spread_47 rfl rfl rfl ?_
                  refine J_iload (pc := 48) dX5_spread_48 rfl ?_
                  refine J_ialdF (pc := 50) dX5_spread_50 h1_17 (by omega) (by decide) ?_
                  refine J_callS0 (pc := 51) (M := mX5_spread) (as := [.int (nI (tg_23 c3)), .int (nI (cm c4))]) dX5_spread_51 fw_X2_both fl_X5_69 fs_X2_both rfl (c_X2_both_atx hs (d := d - 1) (Nat.le_trans (by decide) hdm) (w := w13) (tg_23 c3) (cm c4) (by exact hmv.1) (by exact hcc.1) (kc := 0) (ks := 0)) hdp (st := []) (Nat.le_of_ble_eq_true rfl) rfl (kr_P fun v22 hv22 => ?_) kx_I
                  subst hv22
                  refine J_istore (pc := 54) dX5_spread_54 (by decide) rfl ?_
                  show J X mX5_spread d kc ks 56 [some (.ref 8), some (.ref 1), some (.int (nI s)), some (.int (nI c3)), some (.int (nI c4)), some (.int (nI (c7 (tg_23 c3) (cm c4))))] [] w13 _
                  refine J_aload_n (pc := 56) dX5_spread_56 rfl rfl rfl ?_
                  refine J_get (pc := 57) (k := 0) dX5_spread_57 kC6 (by decide) ff_X5_14 h8_17 rfl ?_
                  refine J_iload (pc := 60) dX5_spread_60 rfl ?_
                  refine J_iload (pc := 62) dX5_spread_62 rfl ?_
                  refine J_aload_n (pc := 64) dX5_spread_64 rfl rfl rfl ?_
                  refine J_get (pc := 65) (k := 1) dX5_spread_65 kC6 (by decide) ff_X5_20 h8_17 rfl ?_
                  refine J_callS0 (pc := 68) (M := mX5_spread) (as := [.int (nI (c7 (tg_23 c3) (cm c4))), .int (nI wn)]) dX5_spread_68 fw_X2_numberOf fl_X5_30 fs_X2_numberOf rfl (c_X2_numberOf_atx hs (d := d - 1) (Nat.le_trans (by decide) hdm) (w := w13) (c7 (tg_23 c3) (cm c4)) wn (by exact c7_lt _ _) (by exact hy1) (by exact (c7_Mv hy1 hmv hcc).2.1) (kc := 0) (ks := 0)) hdp (st := [.int (nI (c7 (tg_23 c3) (cm c4))), .ref 9]) (Nat.le_of_ble_eq_true rfl) rfl (kr_P fun v23 hv23 => ?_) kx_I
                  subst hv23
                  refine J_callV0 (pc := 71) (M := mX5_spread) (as := [.int (nI (c7 (tg_23 c3) (cm c4))), .int (nI (nuF (d8 (c7 (tg_23 c3) (cm c4))) 0 wn wn))]) dX5_spread_71 fw_X1_add fl_X5_34 fm_X1_add fe_X1_add h9_17 (by decide) rfl rfl rfl (c_X1_add_at9x hs (d := d - 1) (Nat.le_trans (by decide) hdm) (w := w13) (ml := ml_23) (tg := tg_23) (mn := mn_23) (wn := wn) ⟨h8_17, h9_17, h10_17, h11_17, hz11_17⟩ (c7 (tg_23 c3) (cm c4)) (nuF (d8 (c7 (tg_23 c3) (cm c4))) 0 wn wn) (by rw [hnu]; exact Nat.lt_of_lt_of_le (nu_b _ _) (fc_7 hy1)) (by rw [hnu]; exact FI_room hy1 hv23_0 (nu_b _ _)) (by exact Nat.le_trans (FI_le hv23_0) (fc_7 hy1)) (kc := 0) (ks := 0)) hdp (st := []) (Nat.le_of_ble_eq_true rfl) rfl (kr_I fun v24 w24 hv24 hw24 => ?_) kx_I
                  obtain ⟨ml24, tg24, mn24, hR24, hFc24, hp24_0⟩ := hw24
                  obtain ⟨h8_24, h9_24, h10_24, h11_24, hz11_24⟩ := hR24
                  have h1_24 := (hFc24.2 1 (by decide)).trans h1_17
                  have hF24 := hF15.tr hFc24
                  obtain ⟨hf1, hf2, hf3, hf4⟩ := FI_add (by omega) hy1 hz11_17 hv23_0 (c7_Mv hy1 hmv hcc) rfl hp24_0
                  rcases hv24 with ⟨rfl, hk24_0⟩ | ⟨rfl, hk24_0⟩
                  · refine J_pop (pc := 74) dX5_spread_74 rfl ?_
                    refine J_iincN (pc := 75) (b := 1) dX5_spread_75 rfl (by decide) (by decide) rfl ?_
                    show J X mX5_spread d kc ks 78 [some (.ref 8), some (.ref 1), some (.int (nI s)), some (.int (nI c3)), some (.int (nI (c4 + 1))), some (.int (nI (c7 (tg_23 c3) (cm c4))))] [] w24 _
                    refine J_goto (pc := 78) (tgt := 23) dX5_spread_78 (by decide) ?_
                    exact J_sub (L' := [some (.ref 8), some (.ref 1), some (.int (nI s)), some (.int (nI c3)), some (.int (nI (c4 + 1))), none]) ⟨rfl, ⟨rfl, ⟨rfl, ⟨rfl, ⟨rfl, trivial⟩⟩⟩⟩⟩ (ihlp23_12 w24 ml24 tg24 mn24 (c4 + 1) ⟨h8_24, h9_24, h10_24, h11_24, hz11_24⟩ hF24 (by first | exact hf1 | exact hv23_0) (by first | exact SC_k hv23_1 (by omega) ⟨hf2, hf3, hf4⟩ | exact hv23_1) (by first | exact SG_k (by omega) hy1 hv23_2 hv23_0 (by omega) hf2 hnu (by omega) (by assumption) hy3 | exact hv23_2) (by first | exact SD_k hv23_3 (by omega) ⟨hf2, hf3, hf4⟩ hnu | exact SD_n hv23_3 (by assumption)) (by omega) (by first | assumption | omega) (by omega))
                  · refine J_pop (pc := 74) dX5_spread_74 rfl ?_
                    refine J_iincN (pc := 75) (b := 1) dX5_spread_75 rfl (by decide) (by decide) rfl ?_
                    show J X mX5_spread d kc ks 78 [some (.ref 8), some (.ref 1), some (.int (nI s)), some (.int (nI c3)), some (.int (nI (c4 + 1))), some (.int (nI (c7 (tg_23 c3) (cm c4))))] [] w24 _
                    refine J_goto (pc := 78) (tgt := 23) dX5_spread_78 (by decide) ?_
                    exact J_sub (L' := [some (.ref 8), some (.ref 1), some (.int (nI s)), some (.int (nI c3)), some (.int (nI (c4 + 1))), none]) ⟨rfl, ⟨rfl, ⟨rfl, ⟨rfl, ⟨rfl, trivial⟩⟩⟩⟩⟩ (ihlp23_12 w24 ml24 tg24 mn24 (c4 + 1) ⟨h8_24, h9_24, h10_24, h11_24, hz11_24⟩ hF24 (by first | exact hf1 | exact hv23_0) (by first | exact SC_k hv23_1 (by omega) ⟨hf2, hf3, hf4⟩ | exact hv23_1) (by first | exact SG_k (by omega) hy1 hv23_2 hv23_0 (by omega) hf2 hnu (by omega) (by assumption) hy3 | exact hv23_2) (by first | exact SD_k hv23_3 (by omega) ⟨hf2, hf3, hf4⟩ hnu | exact SD_n hv23_3 (by assumption)) (by omega) (by first | assumption | omega) (by omega))
          exact J_sub (L' := [some (.ref 8), some (.ref 1), some (.int (nI s)), some (.int (nI c3)), some (.int (nI 0)), none]) ⟨rfl, ⟨rfl, ⟨rfl, ⟨rfl, ⟨rfl, trivial⟩⟩⟩⟩⟩ (lp23_12 _ w2 ml_2 tg_2 mn_2 0 ⟨h8_6, h9_6, h10_6, h11_6, hz11_6⟩ hF4 (by exact hv2_0) (by exact hv2_1) (by exact hv2_2) (by exact SD_0) (by omega) (by first | assumption | omega) (Nat.lt_succ_self _))
  exact J_sub (L' := [some (.ref 8), some (.ref 1), some (.int (nI s)), some (.int (nI 0)), none, none]) ⟨rfl, ⟨rfl, ⟨rfl, ⟨rfl, trivial⟩⟩⟩⟩ (lp2_1 _ w ml tg mn 0 ⟨h8, h9, h10, h11, hz11⟩ hF (by exact hy2) (by exact SC_0) (by exact SG_0) (by omega) (Nat.lt_succ_self _))
set_option maxRecDepth 100000 in
set_option maxHeartbeats 4000000 in
theorem c_X5_goThrough_atx {X : jX} (hs : X.1.stackTraces = false) {d : Nat} (hd : 4 ≤ d) {ml : List Int32} {tg : Nat → Nat} {mn : Nat} {wn : Nat} {w : List jC} (hR : WM ml tg mn wn w) {cm : Nat → Nat} (h1 : w[1]? = some (aF 6 cm)) (s : Nat) (n9 : Nat) (hy0 : 2 ≤ n9) (hy1 : n9 ≤ 7) (hy2 : ∀ c, c < 6 → Mv n9 (cm c)) (hy3 : s < 64) {kc ks : Nat} : jMet X mX5_goThrough d kc ks [.ref 8, .ref 1, .int (nI s), .int (nI n9)] w (pV (fun w' => ∃ (ml' : List Int32), ∃ (tg' : Nat → Nat), ∃ (mn' : Nat), WM ml' tg' mn' n9 w' ∧ FB 8 11 w w' ∧ (FI n9 ml' tg' mn') ∧ (WX n9 cm s ml'))) := by
  refine jMet_of hs (by decide +kernel) (Nat.le_of_ble_eq_true rfl) (L := [some (.ref 8), some (.ref 1), some (.int (nI s)), some (.int (nI n9)), none, none]) rfl ?_
  have hdm : 3 ≤ d - 1 := by omega
  have hdp : d - 1 + 1 ≤ d := by omega
  obtain ⟨h8, h9, h10, h11, hz11⟩ := hR
  have hF : FB 8 11 w w := FB.rf
  have heM : Mv n9 1754760 := by rw [e7_M hy1]; exact eM_Mv hy1
  have heN : nuF (d8 1754760) 0 n9 n9 = nu n9 (eM n9) := by rw [← e7_M hy1]; rfl
  refine J_aload_n (pc := 0) dX5_goThrough_0 rfl rfl rfl ?_
  refine J_iload_n (pc := 1) dX5_goThrough_1 rfl rfl ?_
  refine J_putW (pc := 2) (k := 1) dX5_goThrough_2 kC6 (by decide) ff_X5_20 (Or.inl rfl) ⟨rfl, rfl⟩ h8 (by show 1 < 2; decide) (fun w1 hln1 hw1 hne1 => ?_)
  have h8_1 : w1[8]? = some (.inr (6, [.ref 9, .int (nI n9)])) := hw1
  have h9_1 := (hne1 9 (by decide)).trans h9
  have h10_1 := (hne1 10 (by decide)).trans h10
  have h11_1 := (hne1 11 (by decide)).trans h11
  have h1_1 := (hne1 1 (by decide)).trans h1
  have hF1 := hF.st hln1 hne1 (by decide)
  refine J_aload_n (pc := 5) dX5_goThrough_5 rfl rfl rfl ?_
  refine J_get (pc := 6) (k := 0) dX5_goThrough_6 kC6 (by decide) ff_X5_14 h8_1 rfl ?_
  refine J_callV0 (pc := 9) (M := mX5_goThrough) (as := []) dX5_goThrough_9 fw_X1_clear fl_X5_24 fm_X1_clear fe_X1_clear h9_1 (by decide) rfl rfl rfl (c_X1_clear_at9x hs (d := d - 1) (Nat.le_trans (by decide) hdm) (w := w1) (ml := ml) (tg := tg) (mn := mn) (wn := n9) ⟨h8_1, h9_1, h10_1, h11_1, hz11⟩  (kc := 0) (ks := 0)) hdp (st := []) (Nat.le_of_ble_eq_true rfl) rfl (kr_V fun w2 hw2 => ?_) kx_V
  obtain ⟨hR2, hFc2⟩ := hw2
  obtain ⟨h8_2, h9_2, h10_2, h11_2, hz11_2⟩ := hR2
  have h1_2 := (hFc2.2 1 (by decide)).trans h1_1
  have hF2 := hF1.tr hFc2
  refine J_aload_n (pc := 12) dX5_goThrough_12 rfl rfl rfl ?_
  refine J_get (pc := 13) (k := 0) dX5_goThrough_13 kC6 (by decide) ff_X5_14 h8_2 rfl ?_
  refine J_ldc (pc := 16) (v := nI 1754760) dX5_goThrough_16 (by have := fk_X5_29; exact this) ?_
  refine J_ldc (pc := 18) (v := nI 1754760) dX5_goThrough_18 (by have := fk_X5_29; exact this) ?_
  refine J_aload_n (pc := 20) dX5_goThrough_20 rfl rfl rfl ?_
  refine J_get (pc := 21) (k := 1) dX5_goThrough_21 kC6 (by decide) ff_X5_20 h8_2 rfl ?_
  refine J_callS0 (pc := 24) (M := mX5_goThrough) (as := [.int (nI 1754760), .int (nI n9)]) dX5_goThrough_24 fw_X2_numberOf fl_X5_30 fs_X2_numberOf rfl (c_X2_numberOf_atx hs (d := d - 1) (Nat.le_trans (by decide) hdm) (w := w2) 1754760 n9 (by exact heM.1) (by exact hy1) (by exact heM.2.1) (kc := 0) (ks := 0)) hdp (st := [.int (nI 1754760), .ref 9]) (Nat.le_of_ble_eq_true rfl) rfl (kr_P fun v3 hv3 => ?_) kx_I
  subst hv3
  refine J_callV0 (pc := 27) (M := mX5_goThrough) (as := [.int (nI 1754760), .int (nI (nuF (d8 1754760) 0 n9 n9))]) dX5_goThrough_27 fw_X1_add fl_X5_34 fm_X1_add fe_X1_add h9_2 (by decide) rfl rfl rfl (c_X1_add_at9x hs (d := d - 1) (Nat.le_trans (by decide) hdm) (w := w2) (ml := List.replicate 158 0) (tg := tg) (mn := 0) (wn := n9) ⟨h8_2, h9_2, h10_2, h11_2, hz11_2⟩ 1754760 (nuF (d8 1754760) 0 n9 n9) (by rw [heN]; exact Nat.lt_of_lt_of_le (nu_b _ _) (fc_7 hy1)) (by exact Or.inl (by decide)) (by decide) (kc := 0) (ks := 0)) hdp (st := []) (Nat.le_of_ble_eq_true rfl) rfl (kr_I fun v4 w4 hv4 hw4 => ?_) kx_I
  obtain ⟨ml4, tg4, mn4, hR4, hFc4, hp4_0⟩ := hw4
  obtain ⟨h8_4, h9_4, h10_4, h11_4, hz11_4⟩ := hR4
  have h1_4 := (hFc4.2 1 (by decide)).trans h1_2
  have hF4 := hF2.tr hFc4
  obtain ⟨hf1, hf2, -, -⟩ := FI_add (n := n9) (by omega) hy1 List.length_replicate FI_0 heM rfl hp4_0
  rcases hv4 with ⟨rfl, hk4_0⟩ | ⟨rfl, hk4_0⟩
  · refine J_pop (pc := 30) dX5_goThrough_30 rfl ?_
    refine J_iconst (pc := 31) (v := nI 0) dX5_goThrough_31 (by decide) ?_
    refine J_istore (pc := 32) dX5_goThrough_32 (by decide) rfl ?_
    show J X mX5_goThrough d kc ks 34 [some (.ref 8), some (.ref 1), some (.int (nI s)), some (.int (nI n9)), some (.int (nI 0)), none] [] w4 _
    refine J_iconst (pc := 34) (v := nI 0) dX5_goThrough_34 (by decide) ?_
    refine J_istore (pc := 35) dX5_goThrough_35 (by decide) rfl ?_
    show J X mX5_goThrough d kc ks 37 [some (.ref 8), some (.ref 1), some (.int (nI s)), some (.int (nI n9)), some (.int (nI 0)), some (.int (nI 0))] [] w4 _
    have lp37_5 : ∀ (fuel : Nat) (w6 : List jC) (ml_37 : List Int32) (tg_37 : Nat → Nat) (mn_37 : Nat) (y4 : Nat) (c5 : Nat), (WM ml_37 tg_37 mn_37 n9 w6) → (FB 8 11 w w6) → (FI n9 ml_37 tg_37 mn_37) → (WX n9 cm y4 ml_37) → (∀ j, y4.testBit j = true → s.testBit j = true) → (∀ j, j < c5 → s.testBit j = true → Gg n9 (gS cm y4 6) (cm j)) → (y4 < 2 ^ 6) → (c5 ≤ 6) → (6 - c5 < fuel) → J X mX5_goThrough d kc ks 37 [some (.ref 8), some (.ref 1), some (.int (nI s)), some (.int (nI n9)), some (.int (nI y4)), some (.int (nI c5))] [] w6 (pV (fun w' => ∃ (ml' : List Int32), ∃ (tg' : Nat → Nat), ∃ (mn' : Nat), WM ml' tg' mn' n9 w' ∧ FB 8 11 w w' ∧ (FI n9 ml' tg' mn') ∧ (WX n9 cm s ml'))) := by
      intro fuellp37_5
      induction fuellp37_5 with
      | zero => intros; omega
      | succ fuellp37_5 ihlp37_5 =>
        intro w6 ml_37 tg_37 mn_37 y4 c5 hR7 hF8 hv37_0 hv37_1 hv37_2 hv37_3 hv37_4 hv37_5 hf9
        obtain ⟨h8_10, h9_10, h10_10, h11_10, hz11_10⟩ := hR7
        have h1_10 := (hF8.2 1 (by decide)).trans h1
        refine J_iload (pc := 37) dX5_goThrough_37 rfl ?_
        refine J_aload_n (pc := 39) dX5_goThrough_39 rfl rfl rfl ?_
        refine J_alen (pc := 40) (n := nI 6) dX5_goThrough_40 h1_10 (by decide) (by rw [List.length_map, List.length_range]; rfl) ?_
        refine J_icmp_geN (pc := 41) (tgt := 96) dX5_goThrough_41 (by decide) (by omega) (by omega) (fun ht11 => ?_) (fun hf12 => ?_)
        · exact J_vret (pc := 96) dX5_goThrough_96 rfl (⟨ml_37, tg_37, mn_37, ⟨h8_10, h9_10, h10_10, h11_10, hz11_10⟩, hF8, (by exact hv37_0), (by exact WX_end hy1 hy2 (by omega) hv37_1 hv37_2 hv37_3)⟩)
        · refine J_iload_n (pc := 44) dX5_goThrough_44 rfl rfl ?_
          refine J_iload (pc := 45) dX5_goThrough_45 rfl ?_
          refine J_callSN0 (pc := 47) (M := mX5_goThrough) (as := [.int (nI s), .int (nI c5)]) dX5_goThrough_47 fw_X6_has fl_X5_38 fs_X6_has rfl (c_X6_has_atx hs (d := d - 1) (Nat.le_trans (by decide) hdm) (w := w6) s c5 (by omega) (by omega) (kc := 0) (ks := 0)) hdp (st := []) (Nat.le_of_ble_eq_true rfl) rfl (kr_P fun v13 hv13 => ?_) kx_I
          rcases hv13 with ⟨rfl, hk13_0⟩ | ⟨rfl, hk13_0⟩
          · refine J_if_eqN (pc := 50) (tgt := 90) dX5_goThrough_50 (by decide) (by decide) (fun _ => ?_) (fun h => absurd h (by decide))
            refine J_iincN (pc := 90) (b := 1) dX5_goThrough_90 rfl (by decide) (by decide) rfl ?_
            show J X mX5_goThrough d kc ks 93 [some (.ref 8), some (.ref 1), some (.int (nI s)), some (.int (nI n9)), some (.int (nI y4)), some (.int (nI (c5 + 1)))] [] w6 _
            refine J_goto (pc := 93) (tgt := 37) dX5_goThrough_93 (by decide) ?_
            exact J_sub (L' := [some (.ref 8), some (.ref 1), some (.int (nI s)), some (.int (nI n9)), some (.int (nI y4)), some (.int (nI (c5 + 1)))]) ⟨rfl, ⟨rfl, ⟨rfl, ⟨rfl, ⟨rfl, ⟨rfl, trivial⟩⟩⟩⟩⟩⟩ (ihlp37_5 w6 ml_37 tg_37 mn_37 y4 (c5 + 1) ⟨h8_10, h9_10, h10_10, h11_10, hz11_10⟩ hF8 (by first | exact hs1 | exact hv37_0) (by first | exact WX_sp hy0 hy1 hy2 hv37_1 hs1 hs2 hs3 | exact hv37_1) (by first | exact WE_s hv37_2 (by assumption) | exact hv37_2) (by first | exact WT_s hy1 hy2 (by omega) hv37_3 | exact WT_k (by omega) hy1 hy2 (by omega) hv37_1 hv37_3 (by assumption) | exact WT_n hv37_3 (by assumption)) (by first | exact Nat.or_lt_two_pow hv37_4 (Nat.pow_lt_pow_right (by decide) (by omega)) | assumption) (by first | assumption | omega) (by omega))
          · refine J_if_eqN (pc := 50) (tgt := 90) dX5_goThrough_50 (by decide) (by decide) (fun h => absurd h (by decide)) (fun _ => ?_)
            refine J_aload_n (pc := 53) dX5_goThrough_53 rfl rfl rfl ?_
            refine J_get (pc := 54) (k := 0) dX5_goThrough_54 kC6 (by decide) ff_X5_14 h8_10 rfl ?_
            refine J_aload_n (pc := 57) dX5_goThrough_57 rfl rfl rfl ?_
            refine J_iload (pc := 58) dX5_goThrough_58 rfl ?_
            refine J_ialdF (pc := 60) dX5_goThrough_60 h1_10 (by omega) (by decide) ?_
            refine J_aload_n (pc := 61) dX5_goThrough_61 rfl rfl rfl ?_
            refine J_get (pc := 62) (k := 1) dX5_goThrough_62 kC6 (by decide) ff_X5_20 h8_10 rfl ?_
            refine J_callS0 (pc := 65) (M := mX5_goThrough) (as := [.int (nI (cm c5)), .int (nI n9)]) dX5_goThrough_65 fw_X2_numberOf fl_X5_30 fs_X2_numberOf rfl (c_X2_numberOf_atx hs (d := d - 1) (Nat.le_trans (by decide) hdm) (w := w6) (cm c5) n9 (by exact (hy2 c5 (by omega)).1) (by exact hy1) (by exact (hy2 c5 (by omega)).2.1) (kc := 0) (ks := 0)) hdp (st := [.ref 9]) (Nat.le_of_ble_eq_true rfl) rfl (kr_P fun v14 hv14 => ?_) kx_I
            subst hv14
            refine J_callV0 (pc := 68) (M := mX5_goThrough) (as := [.int (nI (nuF (d8 (cm c5)) 0 n9 n9))]) dX5_goThrough_68 fw_X1_isMarked fl_X5_41 fm_X1_isMarked fe_X1_isMarked h9_10 (by decide) rfl rfl rfl (c_X1_isMarked_at9x hs (d := d - 1) (Nat.le_trans (by decide) hdm) (w := w6) (ml := ml_37) (tg := tg_37) (mn := mn_37) (wn := n9) ⟨h8_10, h9_10, h10_10, h11_10, hz11_10⟩ (nuF (d8 (cm c5)) 0 n9 n9) (by exact Nat.lt_of_lt_of_le (nu_b n9 (cm c5)) (fc_7 hy1)) (kc := 0) (ks := 0)) hdp (st := []) (Nat.le_of_ble_eq_true rfl) rfl (kr_P fun v15 hv15 => ?_) kx_I
            rcases hv15 with ⟨rfl, hk15_0⟩ | ⟨rfl, hk15_0⟩
            · refine J_if_neN (pc := 71) (tgt := 90) dX5_goThrough_71 (by decide) (by decide) (fun h => absurd h (by decide)) (fun _ => ?_)
              refine J_iload (pc := 74) dX5_goThrough_74 rfl ?_
              refine J_iconst (pc := 76) (v := nI 1) dX5_goThrough_76 (by decide) ?_
              refine J_iload (pc := 77) dX5_goThrough_77 rfl ?_
              refine J_shlOne (pc := 79) dX5_goThrough_79 (by omega) ?_
              refine J_iorN (pc := 80) dX5_goThrough_80 (by omega) (by exact Nat.pow_lt_pow_right (by decide) (by omega)) ?_
              refine J_istore (pc := 81) dX5_goThrough_81 (by decide) rfl ?_
              show J X mX5_goThrough d kc ks 83 [some (.ref 8), some (.ref 1), some (.int (nI s)), some (.int (nI n9)), some (.int (nI (y4 ||| (2 ^ c5)))), some (.int (nI c5))] [] w6 _
              refine J_aload_n (pc := 83) dX5_goThrough_83 rfl rfl rfl ?_
              refine J_aload_n (pc := 84) dX5_goThrough_84 rfl rfl rfl ?_
              refine J_iload (pc := 85) dX5_goThrough_85 rfl ?_
              refine J_callV0 (pc := 87) (M := mX5_goThrough) (as := [.ref 1, .int (nI (y4 ||| (2 ^ c5)))]) dX5_goThrough_87 fw_X5_spread fl_X5_45 fm_X5_spread fe_X5_spread h8_10 (by decide) rfl rfl rfl (c_X5_spread_atx hs (d := d - 1) (Nat.le_trans (by decide) hdm) (w := w6) (ml := ml_37) (tg := tg_37) (mn := mn_37) (wn := n9) ⟨h8_10, h9_10, h10_10, h11_10, hz11_10⟩ h1_10 (y4 ||| (2 ^ c5)) (by omega) (by exact hy1) (by exact hv37_0) (by exact hy2) (by exact Nat.or_lt_two_pow hv37_4 (Nat.pow_lt_pow_right (by decide) (by omega))) (kc := 0) (ks := 0)) hdp (st := []) (Nat.le_of_ble_eq_true rfl) rfl (kr_V fun w16 hw16 => ?_) kx_V
              obtain ⟨ml16, tg16, mn16, hR16, hFc16, hp16_0, hp16_1, hp16_2⟩ := hw16
              obtain ⟨h8_16, h9_16, h10_16, h11_16, hz11_16⟩ := hR16
              have h1_16 := (hFc16.2 1 (by decide)).trans h1_10
              have hF16 := hF8.tr hFc16
              have hs1 := hp16_0
              have hs2 := hp16_1
              have hs3 := hp16_2
              refine J_iincN (pc := 90) (b := 1) dX5_goThrough_90 rfl (by decide) (by decide) rfl ?_
              show J X mX5_goThrough d kc ks 93 [some (.ref 8), some (.ref 1), some (.int (nI s)), some (.int (nI n9)), some (.int (nI (y4 ||| (2 ^ c5)))), some (.int (nI (c5 + 1)))] [] w16 _
              refine J_goto (pc := 93) (tgt := 37) dX5_goThrough_93 (by decide) ?_
              exact J_sub (L' := [some (.ref 8), some (.ref 1), some (.int (nI s)), some (.int (nI n9)), some (.int (nI (y4 ||| (2 ^ c5)))), some (.int (nI (c5 + 1)))]) ⟨rfl, ⟨rfl, ⟨rfl, ⟨rfl, ⟨rfl, ⟨rfl, trivial⟩⟩⟩⟩⟩⟩ (ihlp37_5 w16 ml16 tg16 mn16 (y4 ||| (2 ^ c5)) (c5 + 1) ⟨h8_16, h9_16, h10_16, h11_16, hz11_16⟩ hF16 (by first | exact hs1 | exact hv37_0) (by first | exact WX_sp hy0 hy1 hy2 hv37_1 hs1 hs2 hs3 | exact hv37_1) (by first | exact WE_s hv37_2 (by assumption) | exact hv37_2) (by first | exact WT_s hy1 hy2 (by omega) hv37_3 | exact WT_k (by omega) hy1 hy2 (by omega) hv37_1 hv37_3 (by assumption) | exact WT_n hv37_3 (by assumption)) (by first | exact Nat.or_lt_two_pow hv37_4 (Nat.pow_lt_pow_right (by decide) (by omega)) | assumption) (by first | assumption | omega) (by omega))
            · refine J_if_neN (pc := 71) (tgt := 90) dX5_goThrough_71 (by decide) (by decide) (fun _ => ?_) (fun h => absurd h (by decide))
              refine J_iincN (pc := 90) (b := 1) dX5_goThrough_90 rfl (by decide) (by decide) rfl ?_
              show J X mX5_goThrough d kc ks 93 [some (.ref 8), some (.ref 1), some (.int (nI s)), some (.int (nI n9)), some (.int (nI y4)), some (.int (nI (c5 + 1)))] [] w6 _
              refine J_goto (pc := 93) (tgt := 37) dX5_goThrough_93 (by decide) ?_
              exact J_sub (L' := [some (.ref 8), some (.ref 1), some (.int (nI s)), some (.int (nI n9)), some (.int (nI y4)), some (.int (nI (c5 + 1)))]) ⟨rfl, ⟨rfl, ⟨rfl, ⟨rfl, ⟨rfl, ⟨rfl, trivial⟩⟩⟩⟩⟩⟩ (ihlp37_5 w6 ml_37 tg_37 mn_37 y4 (c5 + 1) ⟨h8_10, h9_10, h10_10, h11_10, hz11_10⟩ hF8 (by first | exact hs1 | exact hv37_0) (by first | exact WX_sp hy0 hy1 hy2 hv37_1 hs1 hs2 hs3 | exact hv37_1) (by first | exact WE_s hv37_2 (by assumption) | exact hv37_2) (by first | exact WT_s hy1 hy2 (by omega) hv37_3 | exact WT_k (by omega) hy1 hy2 (by omega) hv37_1 hv37_3 (by assumption) | exact WT_n hv37_3 (by assumption)) (by first | exact Nat.or_lt_two_pow hv37_4 (Nat.pow_lt_pow_right (by decide) (by omega)) | assumption) (by first | assumption | omega) (by omega))
    exact J_sub (L' := [some (.ref 8), some (.ref 1), some (.int (nI s)), some (.int (nI n9)), some (.int (nI 0)), some (.int (nI 0))]) ⟨rfl, ⟨rfl, ⟨rfl, ⟨rfl, ⟨rfl, ⟨rfl, trivial⟩⟩⟩⟩⟩⟩ (lp37_5 _ w4 ml4 tg4 mn4 0 0 ⟨h8_4, h9_4, h10_4, h11_4, hz11_4⟩ hF4 (by exact hf1) (by exact WX_0 hy0 hy1 heN hf2) (by exact fun j h => absurd h (by rw [Nat.zero_testBit]; decide)) (by exact fun j hj => absurd hj (Nat.not_lt_zero j)) (by decide) (by first | assumption | omega) (Nat.lt_succ_self _))
  · refine J_pop (pc := 30) dX5_goThrough_30 rfl ?_
    refine J_iconst (pc := 31) (v := nI 0) dX5_goThrough_31 (by decide) ?_
    refine J_istore (pc := 32) dX5_goThrough_32 (by decide) rfl ?_
    show J X mX5_goThrough d kc ks 34 [some (.ref 8), some (.ref 1), some (.int (nI s)), some (.int (nI n9)), some (.int (nI 0)), none] [] w4 _
    refine J_iconst (pc := 34) (v := nI 0) dX5_goThrough_34 (by decide) ?_
    refine J_istore (pc := 35) dX5_goThrough_35 (by decide) rfl ?_
    show J X mX5_goThrough d kc ks 37 [some (.ref 8), some (.ref 1), some (.int (nI s)), some (.int (nI n9)), some (.int (nI 0)), some (.int (nI 0))] [] w4 _
    have lp37_17 : ∀ (fuel : Nat) (w18 : List jC) (ml_37 : List Int32) (tg_37 : Nat → Nat) (mn_37 : Nat) (y4 : Nat) (c5 : Nat), (WM ml_37 tg_37 mn_37 n9 w18) → (FB 8 11 w w18) → (FI n9 ml_37 tg_37 mn_37) → (WX n9 cm y4 ml_37) → (∀ j, y4.testBit j = true → s.testBit j = true) → (∀ j, j < c5 → s.testBit j = true → Gg n9 (gS cm y4 6) (cm j)) → (y4 < 2 ^ 6) → (c5 ≤ 6) → (6 - c5 < fuel) → J X mX5_goThrough d kc ks 37 [some (.ref 8), some (.ref 1), some (.int (nI s)), some (.int (nI n9)), some (.int (nI y4)), some (.int (nI c5))] [] w18 (pV (fun w' => ∃ (ml' : List Int32), ∃ (tg' : Nat → Nat), ∃ (mn' : Nat), WM ml' tg' mn' n9 w' ∧ FB 8 11 w w' ∧ (FI n9 ml' tg' mn') ∧ (WX n9 cm s ml'))) := by
      intro fuellp37_17
      induction fuellp37_17 with
      | zero => intros; omega
      | succ fuellp37_17 ihlp37_17 =>
        intro w18 ml_37 tg_37 mn_37 y4 c5 hR19 hF20 hv37_0 hv37_1 hv37_2 hv37_3 hv37_4 hv37_5 hf21
        obtain ⟨h8_22, h9_22, h10_22, h11_22, hz11_22⟩ := hR19
        have h1_22 := (hF20.2 1 (by decide)).trans h1
        refine J_iload (pc := 37) dX5_goThrough_37 rfl ?_
        refine J_aload_n (pc := 39) dX5_goThrough_39 rfl rfl rfl ?_
        refine J_alen (pc := 40) (n := nI 6) dX5_goThrough_40 h1_22 (by decide) (by rw [List.length_map, List.length_range]; rfl) ?_
        refine J_icmp_geN (pc := 41) (tgt := 96) dX5_goThrough_41 (by decide) (by omega) (by omega) (fun ht23 => ?_) (fun hf24 => ?_)
        · exact J_vret (pc := 96) dX5_goThrough_96 rfl (⟨ml_37, tg_37, mn_37, ⟨h8_22, h9_22, h10_22, h11_22, hz11_22⟩, hF20, (by exact hv37_0), (by exact WX_end hy1 hy2 (by omega) hv37_1 hv37_2 hv37_3)⟩)
        · refine J_iload_n (pc := 44) dX5_goThrough_44 rfl rfl ?_
          refine J_iload (pc := 45) dX5_goThrough_45 rfl ?_
          refine J_callSN0 (pc := 47) (M := mX5_goThrough) (as := [.int (nI s), .int (nI c5)]) dX5_goThrough_47 fw_X6_has fl_X5_38 fs_X6_has rfl (c_X6_has_atx hs (d := d - 1) (Nat.le_trans (by decide) hdm) (w := w18) s c5 (by omega) (by omega) (kc := 0) (ks := 0)) hdp (st := []) (Nat.le_of_ble_eq_true rfl) rfl (kr_P fun v25 hv25 => ?_) kx_I
          rcases hv25 with ⟨rfl, hk25_0⟩ | ⟨rfl, hk25_0⟩
          · refine J_if_eqN (pc := 50) (tgt := 90) dX5_goThrough_50 (by decide) (by decide) (fun _ => ?_) (fun h => absurd h (by decide))
            refine J_iincN (pc := 90) (b := 1) dX5_goThrough_90 rfl (by decide) (by decide) rfl ?_
            show J X mX5_goThrough d kc ks 93 [some (.ref 8), some (.ref 1), some (.int (nI s)), some (.int (nI n9)), some (.int (nI y4)), some (.int (nI (c5 + 1)))] [] w18 _
            refine J_goto (pc := 93) (tgt := 37) dX5_goThrough_93 (by decide) ?_
            exact J_sub (L' := [some (.ref 8), some (.ref 1), some (.int (nI s)), some (.int (nI n9)), some (.int (nI y4)), some (.int (nI (c5 + 1)))]) ⟨rfl, ⟨rfl, ⟨rfl, ⟨rfl, ⟨rfl, ⟨rfl, trivial⟩⟩⟩⟩⟩⟩ (ihlp37_17 w18 ml_37 tg_37 mn_37 y4 (c5 + 1) ⟨h8_22, h9_22, h10_22, h11_22, hz11_22⟩ hF20 (by first | exact hs1 | exact hv37_0) (by first | exact WX_sp hy0 hy1 hy2 hv37_1 hs1 hs2 hs3 | exact hv37_1) (by first | exact WE_s hv37_2 (by assumption) | exact hv37_2) (by first | exact WT_s hy1 hy2 (by omega) hv37_3 | exact WT_k (by omega) hy1 hy2 (by omega) hv37_1 hv37_3 (by assumption) | exact WT_n hv37_3 (by assumption)) (by first | exact Nat.or_lt_two_pow hv37_4 (Nat.pow_lt_pow_right (by decide) (by omega)) | assumption) (by first | assumption | omega) (by omega))
          · refine J_if_eqN (pc := 50) (tgt := 90) dX5_goThrough_50 (by decide) (by decide) (fun h => absurd h (by decide)) (fun _ => ?_)
            refine J_aload_n (pc := 53) dX5_goThrough_53 rfl rfl rfl ?_
            refine J_get (pc := 54) (k := 0) dX5_goThrough_54 kC6 (by decide) ff_X5_14 h8_22 rfl ?_
            refine J_aload_n (pc := 57) dX5_goThrough_57 rfl rfl rfl ?_
            refine J_iload (pc := 58) dX5_goThrough_58 rfl ?_
            refine J_ialdF (pc := 60) dX5_goThrough_60 h1_22 (by omega) (by decide) ?_
            refine J_aload_n (pc := 61) dX5_goThrough_61 rfl rfl rfl ?_
            refine J_get (pc := 62) (k := 1) dX5_goThrough_62 kC6 (by decide) ff_X5_20 h8_22 rfl ?_
            refine J_callS0 (pc := 65) (M := mX5_goThrough) (as := [.int (nI (cm c5)), .int (nI n9)]) dX5_goThrough_65 fw_X2_numberOf fl_X5_30 fs_X2_numberOf rfl (c_X2_numberOf_atx hs (d := d - 1) (Nat.le_trans (by decide) hdm) (w := w18) (cm c5) n9 (by exact (hy2 c5 (by omega)).1) (by exact hy1) (by exact (hy2 c5 (by omega)).2.1) (kc := 0) (ks := 0)) hdp (st := [.ref 9]) (Nat.le_of_ble_eq_true rfl) rfl (kr_P fun v26 hv26 => ?_) kx_I
            subst hv26
            refine J_callV0 (pc := 68) (M := mX5_goThrough) (as := [.int (nI (nuF (d8 (cm c5)) 0 n9 n9))]) dX5_goThrough_68 fw_X1_isMarked fl_X5_41 fm_X1_isMarked fe_X1_isMarked h9_22 (by decide) rfl rfl rfl (c_X1_isMarked_at9x hs (d := d - 1) (Nat.le_trans (by decide) hdm) (w := w18) (ml := ml_37) (tg := tg_37) (mn := mn_37) (wn := n9) ⟨h8_22, h9_22, h10_22, h11_22, hz11_22⟩ (nuF (d8 (cm c5)) 0 n9 n9) (by exact Nat.lt_of_lt_of_le (nu_b n9 (cm c5)) (fc_7 hy1)) (kc := 0) (ks := 0)) hdp (st := []) (Nat.le_of_ble_eq_true rfl) rfl (kr_P fun v27 hv27 => ?_) kx_I
            rcases hv27 with ⟨rfl, hk27_0⟩ | ⟨rfl, hk27_0⟩
            · refine J_if_neN (pc := 71) (tgt := 90) dX5_goThrough_71 (by decide) (by decide) (fun h => absurd h (by decide)) (fun _ => ?_)
              refine J_iload (pc := 74) dX5_goThrough_74 rfl ?_
              refine J_iconst (pc := 76) (v := nI 1) dX5_goThrough_76 (by decide) ?_
              refine J_iload (pc := 77) dX5_goThrough_77 rfl ?_
              refine J_shlOne (pc := 79) dX5_goThrough_79 (by omega) ?_
              refine J_iorN (pc := 80) dX5_goThrough_80 (by omega) (by exact Nat.pow_lt_pow_right (by decide) (by omega)) ?_
              refine J_istore (pc := 81) dX5_goThrough_81 (by decide) rfl ?_
              show J X mX5_goThrough d kc ks 83 [some (.ref 8), some (.ref 1), some (.int (nI s)), some (.int (nI n9)), some (.int (nI (y4 ||| (2 ^ c5)))), some (.int (nI c5))] [] w18 _
              refine J_aload_n (pc := 83) dX5_goThrough_83 rfl rfl rfl ?_
              refine J_aload_n (pc := 84) dX5_goThrough_84 rfl rfl rfl ?_
              refine J_iload (pc := 85) dX5_goThrough_85 rfl ?_
              refine J_callV0 (pc := 87) (M := mX5_goThrough) (as := [.ref 1, .int (nI (y4 ||| (2 ^ c5)))]) dX5_goThrough_87 fw_X5_spread fl_X5_45 fm_X5_spread fe_X5_spread h8_22 (by decide) rfl rfl rfl (c_X5_spread_atx hs (d := d - 1) (Nat.le_trans (by decide) hdm) (w := w18) (ml := ml_37) (tg := tg_37) (mn := mn_37) (wn := n9) ⟨h8_22, h9_22, h10_22, h11_22, hz11_22⟩ h1_22 (y4 ||| (2 ^ c5)) (by omega) (by exact hy1) (by exact hv37_0) (by exact hy2) (by exact Nat.or_lt_two_pow hv37_4 (Nat.pow_lt_pow_right (by decide) (by omega))) (kc := 0) (ks := 0)) hdp (st := []) (Nat.le_of_ble_eq_true rfl) rfl (kr_V fun w28 hw28 => ?_) kx_V
              obtain ⟨ml28, tg28, mn28, hR28, hFc28, hp28_0, hp28_1, hp28_2⟩ := hw28
              obtain ⟨h8_28, h9_28, h10_28, h11_28, hz11_28⟩ := hR28
              have h1_28 := (hFc28.2 1 (by decide)).trans h1_22
              have hF28 := hF20.tr hFc28
              have hs1 := hp28_0
              have hs2 := hp28_1
              have hs3 := hp28_2
              refine J_iincN (pc := 90) (b := 1) dX5_goThrough_90 rfl (by decide) (by decide) rfl ?_
              show J X mX5_goThrough d kc ks 93 [some (.ref 8), some (.ref 1), some (.int (nI s)), some (.int (nI n9)), some (.int (nI (y4 ||| (2 ^ c5)))), some (.int (nI (c5 + 1)))] [] w28 _
              refine J_goto (pc := 93) (tgt := 37) dX5_goThrough_93 (by decide) ?_
              exact J_sub (L' := [some (.ref 8), some (.ref 1), some (.int (nI s)), some (.int (nI n9)), some (.int (nI (y4 ||| (2 ^ c5)))), some (.int (nI (c5 + 1)))]) ⟨rfl, ⟨rfl, ⟨rfl, ⟨rfl, ⟨rfl, ⟨rfl, trivial⟩⟩⟩⟩⟩⟩ (ihlp37_17 w28 ml28 tg28 mn28 (y4 ||| (2 ^ c5)) (c5 + 1) ⟨h8_28, h9_28, h10_28, h11_28, hz11_28⟩ hF28 (by first | exact hs1 | exact hv37_0) (by first | exact WX_sp hy0 hy1 hy2 hv37_1 hs1 hs2 hs3 | exact hv37_1) (by first | exact WE_s hv37_2 (by assumption) | exact hv37_2) (by first | exact WT_s hy1 hy2 (by omega) hv37_3 | exact WT_k (by omega) hy1 hy2 (by omega) hv37_1 hv37_3 (by assumption) | exact WT_n hv37_3 (by assumption)) (by first | exact Nat.or_lt_two_pow hv37_4 (Nat.pow_lt_pow_right (by decide) (by omega)) | assumption) (by first | assumption | omega) (by omega))
            · refine J_if_neN (pc := 71) (tgt := 90) dX5_goThrough_71 (by decide) (by decide) (fun _ => ?_) (fun h => absurd h (by decide))
              refine J_iincN (pc := 90) (b := 1) dX5_goThrough_90 rfl (by decide) (by decide) rfl ?_
              show J X mX5_goThrough d kc ks 93 [some (.ref 8), some (.ref 1), some (.int (nI s)), some (.int (nI n9)), some (.int (nI y4)), some (.int (nI (c5 + 1)))] [] w18 _
              refine J_goto (pc := 93) (tgt := 37) dX5_goThrough_93 (by decide) ?_
              exact J_sub (L' := [some (.ref 8), some (.ref 1), some (.int (nI s)), some (.int (nI n9)), some (.int (nI y4)), some (.int (nI (c5 + 1)))]) ⟨rfl, ⟨rfl, ⟨rfl, ⟨rfl, ⟨rfl, ⟨rfl, trivial⟩⟩⟩⟩⟩⟩ (ihlp37_17 w18 ml_37 tg_37 mn_37 y4 (c5 + 1) ⟨h8_22, h9_22, h10_22, h11_22, hz11_22⟩ hF20 (by first | exact hs1 | exact hv37_0) (by first | exact WX_sp hy0 hy1 hy2 hv37_1 hs1 hs2 hs3 | exact hv37_1) (by first | exact WE_s hv37_2 (by assumption) | exact hv37_2) (by first | exact WT_s hy1 hy2 (by omega) hv37_3 | exact WT_k (by omega) hy1 hy2 (by omega) hv37_1 hv37_3 (by assumption) | exact WT_n hv37_3 (by assumption)) (by first | exact Nat.or_lt_two_pow hv37_4 (Nat.pow_lt_pow_right (by decide) (by omega)) | assumption) (by first | assumption | omega) (by omega))
    exact J_sub (L' := [some (.ref 8), some (.ref 1), some (.int (nI s)), some (.int (nI n9)), some (.int (nI 0)), some (.int (nI 0))]) ⟨rfl, ⟨rfl, ⟨rfl, ⟨rfl, ⟨rfl, ⟨rfl, trivial⟩⟩⟩⟩⟩⟩ (lp37_17 _ w4 ml4 tg4 mn4 0 0 ⟨h8_4, h9_4, h10_4, h11_4, hz11_4⟩ hF4 (by exact hf1) (by exact WX_0 hy0 hy1 heN hf2) (by exact fun j h => absurd h (by rw [Nat.zero_testBit]; decide)) (by exact fun j hj => absurd hj (Nat.not_lt_zero j)) (by decide) (by first | assumption | omega) (Nat.lt_succ_self _))
