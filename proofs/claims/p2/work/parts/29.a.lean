/-! how many points: told exactly -/
set_option maxRecDepth 100000 in
set_option maxHeartbeats 4000000 in
theorem c_X6_needBetween_att {X : jX} (hs : X.1.stackTraces = false) {d : Nat} (hd : 12 ≤ d) {w : List jC} (a : Int32) (b : Int32) (c : Int32) {kc ks : Nat} (hkc : 1 ≤ kc) (hks : 6 ≤ ks) : jMet X mX6_needBetween d kc ks [.int a, .int b, .int c] w (pX (pV (fun w' => w' = w ∧ b ≤ a ∧ a ≤ c)) (fun E w' => (E = "java/lang/IllegalArgumentException") ∧ w' = w ++ [.inr (99, [])] ∧ ¬ (b ≤ a ∧ a ≤ c))) := by
  refine jMet_of hs (by decide +kernel) (Nat.le_of_ble_eq_true rfl) (L := [some (.int a), some (.int b), some (.int c)]) rfl ?_
  refine J_iload_n (pc := 0) dX6_needBetween_0 rfl rfl ?_
  refine J_iload_n (pc := 1) dX6_needBetween_1 rfl rfl ?_
  refine J_icmp_lt (pc := 2) (tgt := 14) dX6_needBetween_2 (by decide) (fun ht1 => ?_) (fun hf2 => ?_)
  · refine J_iconst (pc := 14) (v := nI 0) dX6_needBetween_14 (by decide) ?_
    refine J_callS (pc := 15) (M := mX6_needBetween) (as := [.int (nI 0)]) dX6_needBetween_15 fw_X6_need fl_X6_99 fs_X6_need rfl (c_X6_need hs (d := d - 1) (by omega) (w := w) 0 (by omega) (kc := 1) (ks := 6) (Nat.le_refl _) (Nat.le_refl _)) (by omega) (by omega) (by omega) (st := []) (Nat.le_of_ble_eq_true rfl) rfl (kr_X (kr_V fun w3 hw3 => ?_)) (kx_X fun E3 w3 hx3 => ?_)
    · exact absurd rfl hw3.2
    · exact JX_out (fun _ h => nomatch h) (by obtain ⟨h1, h2⟩ := hx3; exact ⟨h1, h2, fun h => Int32.not_lt.mpr h.1 ht1⟩)
  · refine J_iload_n (pc := 5) dX6_needBetween_5 rfl rfl ?_
    refine J_iload_n (pc := 6) dX6_needBetween_6 rfl rfl ?_
    refine J_icmp_gt (pc := 7) (tgt := 14) dX6_needBetween_7 (by decide) (fun ht4 => ?_) (fun hf5 => ?_)
    · refine J_iconst (pc := 14) (v := nI 0) dX6_needBetween_14 (by decide) ?_
      refine J_callS (pc := 15) (M := mX6_needBetween) (as := [.int (nI 0)]) dX6_needBetween_15 fw_X6_need fl_X6_99 fs_X6_need rfl (c_X6_need hs (d := d - 1) (by omega) (w := w) 0 (by omega) (kc := 1) (ks := 6) (Nat.le_refl _) (Nat.le_refl _)) (by omega) (by omega) (by omega) (st := []) (Nat.le_of_ble_eq_true rfl) rfl (kr_X (kr_V fun w6 hw6 => ?_)) (kx_X fun E6 w6 hx6 => ?_)
      · exact absurd rfl hw6.2
      · exact JX_out (fun _ h => nomatch h) (by obtain ⟨h1, h2⟩ := hx6; exact ⟨h1, h2, fun h => Int32.not_lt.mpr h.2 ht4⟩)
    · refine J_iconst (pc := 10) (v := nI 1) dX6_needBetween_10 (by decide) ?_
      refine J_goto (pc := 11) (tgt := 15) dX6_needBetween_11 (by decide) ?_
      refine J_callS (pc := 15) (M := mX6_needBetween) (as := [.int (nI 1)]) dX6_needBetween_15 fw_X6_need fl_X6_99 fs_X6_need rfl (c_X6_need_atok hs (d := d - 1) (by omega) (w := w) 1 rfl (kc := 1) (ks := 6)) (by omega) (by omega) (by omega) (st := []) (Nat.le_of_ble_eq_true rfl) rfl (kr_V fun w7 hw7 => ?_) kx_V
      obtain rfl := hw7.symm
      exact J_vret (pc := 18) dX6_needBetween_18 rfl (⟨rfl, ⟨Int32.not_lt.mp (by assumption), Int32.not_lt.mp (by assumption)⟩⟩)
set_option maxRecDepth 100000 in
set_option maxHeartbeats 4000000 in
theorem c_X6_points_att {X : jX} (hs : X.1.stackTraces = false) {d : Nat} (hd : 13 ≤ d) {n : Nat} {e r q : Int32} (hn1 : 2 ≤ n) (hn2 : n ≤ 7) {w : List jC} (hS : SH (rX n e r q) w) (p0 : Int32) {kc ks : Nat} (hkc : 1 ≤ kc) (hks : 6 ≤ ks) : jMet X mX6_points d kc ks [.ref 0, .int p0] w (pX (pI (fun v => ∃ k : Nat, v = nI k ∧ k = n) (fun w' => ∃ k : Nat, 2 ≤ k ∧ k ≤ 7 ∧ p0 = nI k ∧ rT k q w w')) (fun E w' => (E = "java/lang/IllegalArgumentException") ∧ rT n q w w' ∧ ∀ k : Nat, 2 ≤ k → k ≤ 7 → p0 ≠ nI k)) := by
  refine jMet_of hs (by decide +kernel) (Nat.le_of_ble_eq_true rfl) (L := [some (.ref 0), some (.int p0), none]) rfl ?_
  have hG : Fr kX w w := Fr.rf
  refine J_iload_n (pc := 0) dX6_points_0 rfl rfl ?_
  refine J_iconst (pc := 1) (v := nI 2) dX6_points_1 (by decide) ?_
  refine J_bipush (pc := 2) (v := nI 7) dX6_points_2 (by decide) ?_
  refine J_callS (pc := 4) (M := mX6_points) (as := [.int p0, .int (nI 2), .int (nI 7)]) dX6_points_4 fw_X6_needBetween fl_X6_63 fs_X6_needBetween rfl (c_X6_needBetween_att hs (d := d - 1) (by omega) (w := w) p0 (nI 2) (nI 7) (kc := 1) (ks := 6) (Nat.le_refl _) (Nat.le_refl _)) (by omega) (by omega) (by omega) (st := []) (Nat.le_of_ble_eq_true rfl) rfl (kr_X (kr_V fun w1 hw1 => ?_)) (kx_X fun E1 w1 hx1 => ?_)
  · obtain ⟨hq1, hpa1, hpb1⟩ := hw1
    obtain rfl := hq1.symm
    obtain ⟨b1, hb1, hc1, rfl⟩ := nI_btw hpa1 hpb1 (by omega) (by omega)
    refine J_aload_n (pc := 7) dX6_points_7 rfl rfl rfl ?_
    obtain ⟨_, hc2, rfl⟩ := hS 0 _ rfl
    refine J_get (pc := 8) (k := 5) dX6_points_8 kC7 (by decide) ff_X6_41 hc2 rfl ?_
    refine J_istore_n (pc := 11) dX6_points_11 rfl (by decide) rfl ?_
    show J X mX6_points d (kc - 1) (ks - 6) 12 [some (.ref 0), some (.int (nI b1)), some (.int (nI n))] [] w _
    refine J_aload_n (pc := 12) dX6_points_12 rfl rfl rfl ?_
    refine J_iload_n (pc := 13) dX6_points_13 rfl rfl ?_
    refine J_put0 (pc := 14) (n' := b1) (e' := e) (r' := r) (q' := q) (k := 5) dX6_points_14 kC7 (by decide) ff_X6_41 (Or.inl rfl) ⟨rfl, rfl⟩ hS (by decide) rfl (fun w3 hS3 hne3 hF3 => ?_)
    have hG3 := hG.tr hF3
    refine J_aload_n (pc := 17) dX6_points_17 rfl rfl rfl ?_
    obtain ⟨_, hc4, rfl⟩ := hS3 0 _ rfl
    refine J_get (pc := 18) (k := 0) dX6_points_18 kC7 (by decide) ff_X6_9 hc4 rfl ?_
    refine J_ldc (pc := 21) (v := nI 1754760) dX6_points_21 (by have := fk_X6_56; exact this) ?_
    refine J_callS0 (pc := 23) (M := mX6_points) (as := [.ref 1, .int (nI 1754760)]) dX6_points_23 fw_J7_fill_53178 fl_X6_57 fs_J7_fill_53178 rfl (c_J7_fill_53178_at1 hs (d := d - 1) (by omega) (n := b1) (e := e) (r := r) (q := q) hS3 (w := w3) (nI 1754760) (kc := 0) (ks := 0)) (by omega) (st := []) (Nat.le_of_ble_eq_true rfl) rfl (kr_V fun w5 hw5 => ?_) kx_V
    obtain ⟨hS5, hF5⟩ := hw5
    have hG5 := hG3.tr hF5
    refine J_aload_n (pc := 26) dX6_points_26 rfl rfl rfl ?_
    refine J_dup (pc := 27) dX6_points_27 rfl ?_
    obtain ⟨_, hc6, rfl⟩ := hS5 0 _ rfl
    refine J_get (pc := 28) (k := 6) dX6_points_28 kC7 (by decide) ff_X6_45 hc6 rfl ?_
    refine J_iconst (pc := 31) (v := nI 1) dX6_points_31 (by decide) ?_
    refine J_iadd (pc := 32) dX6_points_32 (J_absI fun x7 => ?_)
    refine J_put0 (pc := 33) (n' := b1) (e' := x7) (r' := r) (q' := q) (k := 6) dX6_points_33 kC7 (by decide) ff_X6_45 (Or.inl rfl) ⟨rfl, rfl⟩ hS5 (by decide) rfl (fun w8 hS8 hne8 hF8 => ?_)
    have hG8 := hG5.tr hF8
    refine J_iload_n (pc := 36) dX6_points_36 rfl rfl ?_
    exact J_iret (pc := 37) dX6_points_37 rfl ⟨⟨n, rfl, by omega⟩, ⟨_, by assumption, by assumption, rfl, _, _, hS8, hG8⟩⟩
  · exact JX_out (fun _ h => nomatch h) (by obtain ⟨h1, h2, h3⟩ := hx1; exact ⟨h1, by subst h2; exact ⟨_, _, hS.push, hG.tr Fr.push⟩, fun k k1 k2 e => h3 (by rw [e]; exact ⟨nI_le k1 (by omega), nI_le k2 (by decide)⟩)⟩)
set_option maxRecDepth 100000 in
set_option maxHeartbeats 4000000 in
theorem c_X8_points_att {X : jX} (hs : X.1.stackTraces = false) {d : Nat} (hd : 2 ≤ d) {n : Nat} {mv rw nx : Nat → Nat} {b : Nat} {bt : List Int32} {kn en dn rf kk th : Int32} {w : List jC} (hR : RM n mv rw nx b bt kn en dn rf kk th w) (hn1 : 2 ≤ n) (hn2 : n ≤ 7) (gm : ∀ i, mv i < 7) (gr : ∀ i, rw i < 7) (gx : ∀ i, nx i < 7) (a : Int32) (hy0 : PM n mv) (hy1 : KB n kn bt) {kc ks : Nat} : jMet X mX8_points d kc ks [.ref 19, .int a] w (pI (fun v => (v = nI 0 ∧ ∀ k : Nat, 2 ≤ k → k ≤ 7 → a ≠ nI k) ∨ (∃ (k : Nat), v = nI n ∧ 2 ≤ k ∧ k ≤ 7 ∧ a = nI k)) (fun w' => ∃ (n' : Nat), ∃ (mv' : Nat → Nat), ∃ (kn' : Int32), ∃ (dn' : Int32), ∃ (th' : Int32), RM n' mv' rw nx b bt kn' en dn' rf kk th' w' ∧ FR b b w w' ∧ (∀ i, mv' i < 7) ∧ 2 ≤ n' ∧ n' ≤ 7 ∧ PM n' mv' ∧ KB n' kn' bt ∧ ((∃ k : Nat, 2 ≤ k ∧ k ≤ 7 ∧ a = nI k ∧ n' = k ∧ th' = nI 0) ∨ ((∀ k : Nat, 2 ≤ k → k ≤ 7 → a ≠ nI k) ∧ n' = n ∧ th' = nI 1)))) := by
  refine jMet_of hs (by decide +kernel) (Nat.le_of_ble_eq_true rfl) (L := [some (.ref 19), some (.int a), none]) rfl ?_
  have hdm : 1 ≤ d - 1 := by omega
  have hdp : d - 1 + 1 ≤ d := by omega
  have hfc := fc_7 hn2
  have hfp := fc_pos n
  obtain ⟨h19, h20, h21, h22, hbb, hbl, hb3⟩ := hR
  have hF : FR b b w w := FR.rf
  refine J_aload_n (pc := 0) dX8_points_0 rfl rfl rfl ?_
  refine J_iload_n (pc := 1) dX8_points_1 rfl rfl ?_
  refine J_iconst (pc := 2) (v := nI 2) dX8_points_2 (by decide) ?_
  refine J_icmp_lt (pc := 3) (tgt := 12) dX8_points_3 (by decide) (fun ht1 => ?_) (fun hf2 => ?_)
  · refine J_iconst (pc := 12) (v := nI 1) dX8_points_12 (by decide) ?_
    refine J_goto (pc := 13) (tgt := 17) dX8_points_13 (by decide) ?_
    refine J_callV0 (pc := 17) (M := mX8_points) (as := [.int (nI 1)]) dX8_points_17 fw_X8_isThrown_ fl_X8_105 fm_X8_isThrown_ fe_X8_isThrown_ h19 (by decide) rfl rfl rfl (c_X8_isThrown_ hs (d := d - 1) (Nat.le_trans (by decide) hdm) (w := w) (n := n) (mv := mv) (rw := rw) (nx := nx) (b := b) (bt := bt) (kn := kn) (en := en) (dn := dn) (rf := rf) (kk := kk) (th := th) ⟨h19, h20, h21, h22, hbb, hbl, hb3⟩ hn1 hn2 gm gr gx 1 (by first | assumption | omega) (kc := 0) (ks := 0)) hdp (st := []) (Nat.le_of_ble_eq_true rfl) rfl (kr_I fun v3 w3 hv3 hw3 => ?_) kx_I
    obtain ⟨hR3, hFc3⟩ := hw3
    obtain ⟨h19_3, h20_3, h21_3, h22_3, hbb_3, hbl_3, hb3_3⟩ := hR3
    have hF3 := hF.tr hFc3
    subst hv3
    show J X mX8_points d kc ks 20 [some (.ref 19), some (.int a), none] [.int (nI 1)] w3 _
    refine J_if_eqN (pc := 20) (tgt := 25) dX8_points_20 (by decide) (by decide) (fun h => absurd h (by decide)) (fun _ => ?_)
    refine J_iconst (pc := 23) (v := nI 0) dX8_points_23 (by decide) ?_
    exact J_iret (pc := 24) dX8_points_24 rfl ⟨Or.inl ⟨rfl, (by intro k h1 h2 e; subst e; first | exact absurd (by assumption) (nI_nlt h1 (by omega)) | exact absurd (by assumption) (nI_nlt h2 (by decide)) | exact absurd (nI_le h2 (by decide)) (by assumption) | exact absurd (nI_le h1 (by omega)) (by assumption))⟩, ⟨n, mv, kn, dn, nI (tW 1 0), ⟨h19_3, h20_3, h21_3, h22_3, hbb_3, hbl_3, hb3_3⟩, hF3, gm, (by omega), (by omega), (by first | assumption | exact PM_id (by omega) (by assumption)), (by first | assumption | exact Or.inl rfl), (by first | exact Or.inl ⟨_, by omega, by omega, rfl, rfl, rfl⟩ | exact Or.inr ⟨by intro k h1 h2 e; subst e; first | exact absurd (by assumption) (nI_nlt h1 (by omega)) | exact absurd (by assumption) (nI_nlt h2 (by decide)) | exact absurd (nI_le h2 (by decide)) (by assumption) | exact absurd (nI_le h1 (by omega)) (by assumption), rfl, rfl⟩)⟩⟩
  · refine J_iload_n (pc := 6) dX8_points_6 rfl rfl ?_
    refine J_bipush (pc := 7) (v := nI 7) dX8_points_7 (by decide) ?_
    refine J_icmp_le (pc := 9) (tgt := 16) dX8_points_9 (by decide) (fun ht4 => ?_) (fun hf5 => ?_)
    · refine J_iconst (pc := 16) (v := nI 0) dX8_points_16 (by decide) ?_
      refine J_callV0 (pc := 17) (M := mX8_points) (as := [.int (nI 0)]) dX8_points_17 fw_X8_isThrown_ fl_X8_105 fm_X8_isThrown_ fe_X8_isThrown_ h19 (by decide) rfl rfl rfl (c_X8_isThrown_ hs (d := d - 1) (Nat.le_trans (by decide) hdm) (w := w) (n := n) (mv := mv) (rw := rw) (nx := nx) (b := b) (bt := bt) (kn := kn) (en := en) (dn := dn) (rf := rf) (kk := kk) (th := th) ⟨h19, h20, h21, h22, hbb, hbl, hb3⟩ hn1 hn2 gm gr gx 0 (by first | assumption | omega) (kc := 0) (ks := 0)) hdp (st := []) (Nat.le_of_ble_eq_true rfl) rfl (kr_I fun v6 w6 hv6 hw6 => ?_) kx_I
      obtain ⟨hR6, hFc6⟩ := hw6
      obtain ⟨h19_6, h20_6, h21_6, h22_6, hbb_6, hbl_6, hb3_6⟩ := hR6
      have hF6 := hF.tr hFc6
      subst hv6
      show J X mX8_points d kc ks 20 [some (.ref 19), some (.int a), none] [.int (nI 0)] w6 _
      refine J_if_eqN (pc := 20) (tgt := 25) dX8_points_20 (by decide) (by decide) (fun _ => ?_) (fun h => absurd h (by decide))
      obtain ⟨k7, hk7a, hk7b, rfl⟩ := nI_btw (Int32.not_lt.mp (by assumption)) (by assumption) (by omega) (by omega)
      refine J_aload_n (pc := 25) dX8_points_25 rfl rfl rfl ?_
      refine J_get (pc := 26) (k := 0) dX8_points_26 kC9 (by decide) ff_X8_7 h19_6 rfl ?_
      refine J_istore_n (pc := 29) dX8_points_29 rfl (by decide) rfl ?_
      show J X mX8_points d kc ks 30 [some (.ref 19), some (.int (nI k7)), some (.int (nI n))] [] w6 _
      refine J_aload_n (pc := 30) dX8_points_30 rfl rfl rfl ?_
      refine J_iload_n (pc := 31) dX8_points_31 rfl rfl ?_
      refine J_putW (pc := 32) (k := 0) dX8_points_32 kC9 (by decide) ff_X8_7 (Or.inl rfl) ⟨rfl, rfl⟩ h19_6 (by show 0 < 11; decide) (fun w8 hln8 hw8 hne8 => ?_)
      have h19_8 : w8[19]? = some (.inr (9, [.int (nI k7), .ref 20, .ref 21, .ref 22, .ref b, .int kn, .int en, .int dn, .int rf, .int kk, .int (nI (tW 0 0))])) := hw8
      have h20_8 := (hne8 20 (by decide)).trans h20_6
      have h21_8 := (hne8 21 (by decide)).trans h21_6
      have h22_8 := (hne8 22 (by decide)).trans h22_6
      have hb_8 := (hne8 _ (Nat.ne_of_gt (Nat.lt_of_lt_of_le (by decide) hb3_6))).trans hbb_6
      have hF8 := hF6.st hln8 hne8 (Or.inl (by decide))
      refine J_aload_n (pc := 35) dX8_points_35 rfl rfl rfl ?_
      refine J_callV0 (pc := 36) (M := mX8_points) (as := []) dX8_points_36 fw_X8_still fl_X8_29 fm_X8_still fe_X8_still h19_8 (by decide) rfl rfl rfl (c_X8_still hs (d := d - 1) (Nat.le_trans (by decide) hdm) (w := w8) (n := k7) (mv := mv) (rw := rw) (nx := nx) (b := b) (bt := bt) (kn := kn) (en := en) (dn := dn) (rf := rf) (kk := kk) (th := nI (tW 0 0)) ⟨h19_8, h20_8, h21_8, h22_8, hb_8, hbl_6, hb3_6⟩ (by omega) (by omega) gm gr gx  (kc := 0) (ks := 0)) hdp (st := []) (Nat.le_of_ble_eq_true rfl) rfl (kr_V fun w9 hw9 => ?_) kx_V
      obtain ⟨mv9, hR9, hFc9, hgmv9, hp9_0⟩ := hw9
      obtain ⟨h19_9, h20_9, h21_9, h22_9, hbb_9, hbl_9, hb3_9⟩ := hR9
      have hF9 := hF8.tr hFc9
      refine J_aload_n (pc := 39) dX8_points_39 rfl rfl rfl ?_
      refine J_iload_n (pc := 40) dX8_points_40 rfl rfl ?_
      refine J_callV0 (pc := 41) (M := mX8_points) (as := [.int (nI n)]) dX8_points_41 fw_X8_told fl_X8_49 fm_X8_told fe_X8_told h19_9 (by decide) rfl rfl rfl (c_X8_told hs (d := d - 1) (Nat.le_trans (by decide) hdm) (w := w9) (n := k7) (mv := mv9) (rw := rw) (nx := nx) (b := b) (bt := bt) (kn := (-1)) (en := en) (dn := dn) (rf := rf) (kk := kk) (th := nI (tW 0 0)) ⟨h19_9, h20_9, h21_9, h22_9, hbb_9, hbl_9, hb3_9⟩ (by omega) (by omega) hgmv9 gr gx (nI n) (kc := 0) (ks := 0)) hdp (st := []) (Nat.le_of_ble_eq_true rfl) rfl (kr_I fun v10 w10 hv10 hw10 => ?_) kx_I
      obtain ⟨hR10, hFc10⟩ := hw10
      obtain ⟨h19_10, h20_10, h21_10, h22_10, hbb_10, hbl_10, hb3_10⟩ := hR10
      have hF10 := hF9.tr hFc10
      subst hv10
      exact J_iret (pc := 44) dX8_points_44 rfl ⟨Or.inr (⟨k7, rfl, (by omega), (by omega), (by rfl)⟩), ⟨k7, mv9, (-1), (dn + nI 1), nI (tW 0 0), ⟨h19_10, h20_10, h21_10, h22_10, hbb_10, hbl_10, hb3_10⟩, hF10, hgmv9, (by omega), (by omega), (by first | assumption | exact PM_id (by omega) (by assumption)), (by first | assumption | exact Or.inl rfl), (by first | exact Or.inl ⟨_, by omega, by omega, rfl, rfl, rfl⟩ | exact Or.inr ⟨by intro k h1 h2 e; subst e; first | exact absurd (by assumption) (nI_nlt h1 (by omega)) | exact absurd (by assumption) (nI_nlt h2 (by decide)) | exact absurd (nI_le h2 (by decide)) (by assumption) | exact absurd (nI_le h1 (by omega)) (by assumption), rfl, rfl⟩)⟩⟩
    · refine J_iconst (pc := 12) (v := nI 1) dX8_points_12 (by decide) ?_
      refine J_goto (pc := 13) (tgt := 17) dX8_points_13 (by decide) ?_
      refine J_callV0 (pc := 17) (M := mX8_points) (as := [.int (nI 1)]) dX8_points_17 fw_X8_isThrown_ fl_X8_105 fm_X8_isThrown_ fe_X8_isThrown_ h19 (by decide) rfl rfl rfl (c_X8_isThrown_ hs (d := d - 1) (Nat.le_trans (by decide) hdm) (w := w) (n := n) (mv := mv) (rw := rw) (nx := nx) (b := b) (bt := bt) (kn := kn) (en := en) (dn := dn) (rf := rf) (kk := kk) (th := th) ⟨h19, h20, h21, h22, hbb, hbl, hb3⟩ hn1 hn2 gm gr gx 1 (by first | assumption | omega) (kc := 0) (ks := 0)) hdp (st := []) (Nat.le_of_ble_eq_true rfl) rfl (kr_I fun v11 w11 hv11 hw11 => ?_) kx_I
      obtain ⟨hR11, hFc11⟩ := hw11
      obtain ⟨h19_11, h20_11, h21_11, h22_11, hbb_11, hbl_11, hb3_11⟩ := hR11
      have hF11 := hF.tr hFc11
      subst hv11
      show J X mX8_points d kc ks 20 [some (.ref 19), some (.int a), none] [.int (nI 1)] w11 _
      refine J_if_eqN (pc := 20) (tgt := 25) dX8_points_20 (by decide) (by decide) (fun h => absurd h (by decide)) (fun _ => ?_)
      refine J_iconst (pc := 23) (v := nI 0) dX8_points_23 (by decide) ?_
      exact J_iret (pc := 24) dX8_points_24 rfl ⟨Or.inl ⟨rfl, (by intro k h1 h2 e; subst e; first | exact absurd (by assumption) (nI_nlt h1 (by omega)) | exact absurd (by assumption) (nI_nlt h2 (by decide)) | exact absurd (nI_le h2 (by decide)) (by assumption) | exact absurd (nI_le h1 (by omega)) (by assumption))⟩, ⟨n, mv, kn, dn, nI (tW 1 0), ⟨h19_11, h20_11, h21_11, h22_11, hbb_11, hbl_11, hb3_11⟩, hF11, gm, (by omega), (by omega), (by first | assumption | exact PM_id (by omega) (by assumption)), (by first | assumption | exact Or.inl rfl), (by first | exact Or.inl ⟨_, by omega, by omega, rfl, rfl, rfl⟩ | exact Or.inr ⟨by intro k h1 h2 e; subst e; first | exact absurd (by assumption) (nI_nlt h1 (by omega)) | exact absurd (by assumption) (nI_nlt h2 (by decide)) | exact absurd (nI_le h2 (by decide)) (by assumption) | exact absurd (nI_le h1 (by omega)) (by assumption), rfl, rfl⟩)⟩⟩
