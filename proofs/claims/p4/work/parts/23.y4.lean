/-! the house's acts, exactly -/
set_option maxRecDepth 100000 in
set_option maxHeartbeats 4000000 in
theorem c_X6_keep_atx {X : jX} (hs : X.1.stackTraces = false) {d : Nat} (hd : 0 ≤ d) {n : Nat} {e r q : Int32} {cm : Nat → Nat} {w : List jC} (hH : HX n e r q cm w) (hn1 : 2 ≤ n) (hn2 : n ≤ 7) (hcm : ∀ c, c < 6 → Mv n (cm c)) (a : Nat) (x : Nat) (hy0 : a < 6) {kc ks : Nat} : jMet X mX6_keep d kc ks [.ref 0, .int (nI a), .int (nI x)] w (pV (fun w' => HX n (e + nI 1) r q (up cm a x) w' ∧ FH w w')) := by
  refine jMet_of hs (by decide +kernel) (Nat.le_of_ble_eq_true rfl) (L := [some (.ref 0), some (.int (nI a)), some (.int (nI x))]) rfl ?_
  obtain ⟨h0, h1⟩ := hH
  have hG : FH w w := FH.rf
  refine J_aload_n (pc := 0) dX6_keep_0 rfl rfl rfl ?_
  refine J_get (pc := 1) (k := 0) dX6_keep_1 kC7 (by decide) ff_X6_9 h0 rfl ?_
  refine J_iload_n (pc := 4) dX6_keep_4 rfl rfl ?_
  refine J_iload_n (pc := 5) dX6_keep_5 rfl rfl ?_
  refine J_iastF (pc := 6) dX6_keep_6 h1 (by omega) (by decide) (fun w1 hln1 hc1 hne1 => ?_)
  have h0_1 := (hne1 0 (by decide)).trans h0
  have hG1 := hG.st hln1 hne1 (by decide)
  refine J_aload_n (pc := 7) dX6_keep_7 rfl rfl rfl ?_
  refine J_dup (pc := 8) dX6_keep_8 rfl ?_
  refine J_get (pc := 9) (k := 6) dX6_keep_9 kC7 (by decide) ff_X6_45 h0_1 rfl ?_
  refine J_iconst (pc := 12) (v := nI 1) dX6_keep_12 (by decide) ?_
  refine J_iadd (pc := 13) dX6_keep_13 ?_
  refine J_putW (pc := 14) (k := 6) dX6_keep_14 kC7 (by decide) ff_X6_45 (Or.inl rfl) ⟨rfl, rfl⟩ h0_1 (by show 6 < 9; decide) (fun w2 hln2 hw2 hne2 => ?_)
  have h0_2 : w2[0]? = some (.inr (7, [.ref 1, .ref 2, .ref 8, .ref 12, .ref 14, .int (nI n), .int (e + nI 1), .int r, .int q])) := hw2
  have h1_2 := (hne2 1 (by decide)).trans hc1
  have hG2 := hG1.st hln2 hne2 (by decide)
  exact J_vret (pc := 17) dX6_keep_17 rfl (⟨⟨h0_2, h1_2⟩, hG2⟩)
set_option maxRecDepth 100000 in
set_option maxHeartbeats 4000000 in
theorem c_X6_keepForSign_atx {X : jX} (hs : X.1.stackTraces = false) {d : Nat} (hd : 4 ≤ d) {n : Nat} {e r q : Int32} {cm : Nat → Nat} {w : List jC} (hH : HX n e r q cm w) (hn1 : 2 ≤ n) (hn2 : n ≤ 7) (hcm : ∀ c, c < 6 → Mv n (cm c)) (a : Nat) (x : Nat) (hy0 : a < 6) (hy1 : Mv n x) {kc ks : Nat} : jMet X mX6_keepForSign d kc ks [.ref 0, .int (nI a), .int (nI x)] w (pI (fun v => v = sg n x) (fun w' => HX n (e + nI 1) r q (up cm a x) w' ∧ FH w w')) := by
  refine jMet_of hs (by decide +kernel) (Nat.le_of_ble_eq_true rfl) (L := [some (.ref 0), some (.int (nI a)), some (.int (nI x))]) rfl ?_
  obtain ⟨h0, h1⟩ := hH
  have hG : FH w w := FH.rf
  refine J_aload_n (pc := 0) dX6_keepForSign_0 rfl rfl rfl ?_
  refine J_iload_n (pc := 1) dX6_keepForSign_1 rfl rfl ?_
  refine J_iload_n (pc := 2) dX6_keepForSign_2 rfl rfl ?_
  refine J_callV0 (pc := 3) (M := mX6_keepForSign) (as := [.int (nI a), .int (nI x)]) dX6_keepForSign_3 fw_X6_keep fl_X6_82 fm_X6_keep fe_X6_keep h0 (by decide) rfl rfl rfl (c_X6_keep_atx hs (d := d - 1) (by omega) (n := n) (e := e) (r := r) (q := q) (cm := cm) ⟨h0, h1⟩ hn1 hn2 hcm (w := w) a x (by first | assumption | omega) (kc := 0) (ks := 0)) (by omega) (st := []) (Nat.le_of_ble_eq_true rfl) rfl (kr_V fun w1 hw1 => ?_) kx_V
  obtain ⟨⟨h0_1, h1_1⟩, hGc1⟩ := hw1
  have hG1 := hG.tr hGc1
  refine J_iload_n (pc := 6) dX6_keepForSign_6 rfl rfl ?_
  refine J_aload_n (pc := 7) dX6_keepForSign_7 rfl rfl rfl ?_
  refine J_get (pc := 8) (k := 5) dX6_keepForSign_8 kC7 (by decide) ff_X6_41 h0_1 rfl ?_
  refine J_callS0 (pc := 11) (M := mX6_keepForSign) (as := [.int (nI x), .int (nI n)]) dX6_keepForSign_11 fw_X2_signOf fl_X6_167 fs_X2_signOf rfl (c_X2_signOf_atx hs (d := d - 1) (by omega) (w := w1) x n (by exact hy1.1) (by exact hy1.P7 hn2) (by exact hn2) (kc := 0) (ks := 0)) (by omega) (st := []) (Nat.le_of_ble_eq_true rfl) rfl (kr_P fun v2 hv2 => ?_) kx_I
  subst hv2
  exact J_iret (pc := 14) dX6_keepForSign_14 rfl ⟨(sign_is hn2 hy1), ⟨⟨h0_1, h1_1⟩, hG1⟩⟩
set_option maxRecDepth 100000 in
set_option maxHeartbeats 4000000 in
theorem c_X6_keepForNumber_atx {X : jX} (hs : X.1.stackTraces = false) {d : Nat} (hd : 3 ≤ d) {n : Nat} {e r q : Int32} {cm : Nat → Nat} {w : List jC} (hH : HX n e r q cm w) (hn1 : 2 ≤ n) (hn2 : n ≤ 7) (hcm : ∀ c, c < 6 → Mv n (cm c)) (a : Nat) (x : Nat) (hy0 : a < 6) (hy1 : Mv n x) {kc ks : Nat} : jMet X mX6_keepForNumber d kc ks [.ref 0, .int (nI a), .int (nI x)] w (pI (fun v => v = nI (nuF (d8 x) 0 n n)) (fun w' => HX n (e + nI 1) r q (up cm a x) w' ∧ FH w w')) := by
  refine jMet_of hs (by decide +kernel) (Nat.le_of_ble_eq_true rfl) (L := [some (.ref 0), some (.int (nI a)), some (.int (nI x))]) rfl ?_
  obtain ⟨h0, h1⟩ := hH
  have hG : FH w w := FH.rf
  refine J_aload_n (pc := 0) dX6_keepForNumber_0 rfl rfl rfl ?_
  refine J_iload_n (pc := 1) dX6_keepForNumber_1 rfl rfl ?_
  refine J_iload_n (pc := 2) dX6_keepForNumber_2 rfl rfl ?_
  refine J_callV0 (pc := 3) (M := mX6_keepForNumber) (as := [.int (nI a), .int (nI x)]) dX6_keepForNumber_3 fw_X6_keep fl_X6_82 fm_X6_keep fe_X6_keep h0 (by decide) rfl rfl rfl (c_X6_keep_atx hs (d := d - 1) (by omega) (n := n) (e := e) (r := r) (q := q) (cm := cm) ⟨h0, h1⟩ hn1 hn2 hcm (w := w) a x (by first | assumption | omega) (kc := 0) (ks := 0)) (by omega) (st := []) (Nat.le_of_ble_eq_true rfl) rfl (kr_V fun w1 hw1 => ?_) kx_V
  obtain ⟨⟨h0_1, h1_1⟩, hGc1⟩ := hw1
  have hG1 := hG.tr hGc1
  refine J_iload_n (pc := 6) dX6_keepForNumber_6 rfl rfl ?_
  refine J_aload_n (pc := 7) dX6_keepForNumber_7 rfl rfl rfl ?_
  refine J_get (pc := 8) (k := 5) dX6_keepForNumber_8 kC7 (by decide) ff_X6_41 h0_1 rfl ?_
  refine J_callS0 (pc := 11) (M := mX6_keepForNumber) (as := [.int (nI x), .int (nI n)]) dX6_keepForNumber_11 fw_X2_numberOf fl_X6_75 fs_X2_numberOf rfl (c_X2_numberOf_atx hs (d := d - 1) (by omega) (w := w1) x n (by exact hy1.1) (by exact hn2) (by exact hy1.2.1) (kc := 0) (ks := 0)) (by omega) (st := []) (Nat.le_of_ble_eq_true rfl) rfl (kr_P fun v2 hv2 => ?_) kx_I
  subst hv2
  exact J_iret (pc := 14) dX6_keepForNumber_14 rfl ⟨rfl, ⟨⟨h0_1, h1_1⟩, hG1⟩⟩
set_option maxRecDepth 100000 in
set_option maxHeartbeats 4000000 in
theorem c_X6_cannot_atx {X : jX} (hs : X.1.stackTraces = false) {d : Nat} (hd : 0 ≤ d) {n : Nat} {e r q : Int32} {cm : Nat → Nat} {w : List jC} (hH : HX n e r q cm w) (hn1 : 2 ≤ n) (hn2 : n ≤ 7) (hcm : ∀ c, c < 6 → Mv n (cm c)) {kc ks : Nat} : jMet X mX6_cannot d kc ks [.ref 0] w (pI (fun v => v = (-9)) (fun w' => HX n e (r + nI 1) q cm w' ∧ FH w w')) := by
  refine jMet_of hs (by decide +kernel) (Nat.le_of_ble_eq_true rfl) (L := [some (.ref 0)]) rfl ?_
  obtain ⟨h0, h1⟩ := hH
  have hG : FH w w := FH.rf
  refine J_aload_n (pc := 0) dX6_cannot_0 rfl rfl rfl ?_
  refine J_dup (pc := 1) dX6_cannot_1 rfl ?_
  refine J_get (pc := 2) (k := 7) dX6_cannot_2 kC7 (by decide) ff_X6_48 h0 rfl ?_
  refine J_iconst (pc := 5) (v := nI 1) dX6_cannot_5 (by decide) ?_
  refine J_iadd (pc := 6) dX6_cannot_6 ?_
  refine J_putW (pc := 7) (k := 7) dX6_cannot_7 kC7 (by decide) ff_X6_48 (Or.inl rfl) ⟨rfl, rfl⟩ h0 (by show 7 < 9; decide) (fun w1 hln1 hw1 hne1 => ?_)
  have h0_1 : w1[0]? = some (.inr (7, [.ref 1, .ref 2, .ref 8, .ref 12, .ref 14, .int (nI n), .int e, .int (r + nI 1), .int q])) := hw1
  have h1_1 := (hne1 1 (by decide)).trans h1
  have hG1 := hG.st hln1 hne1 (by decide)
  refine J_bipush (pc := 10) (v := (-9)) dX6_cannot_10 (by decide) ?_
  exact J_iret (pc := 12) dX6_cannot_12 rfl ⟨rfl, ⟨⟨h0_1, h1_1⟩, hG1⟩⟩
set_option maxRecDepth 100000 in
set_option maxHeartbeats 4000000 in
theorem c_X6_exchange_atx {X : jX} (hs : X.1.stackTraces = false) {d : Nat} (hd : 12 ≤ d) {n : Nat} {e r q : Int32} {cm : Nat → Nat} {w : List jC} (hH : HX n e r q cm w) (hn1 : 2 ≤ n) (hn2 : n ≤ 7) (hcm : ∀ c, c < 6 → Mv n (cm c)) (p0 : Int32) (p1 : Int32) (p2 : Int32) {kc ks : Nat} (hkc : 3 ≤ kc) (hks : 18 ≤ ks) : jMet X mX6_exchange d kc ks [.ref 0, .int p0, .int p1, .int p2] w (pX (pJ (fun v w' => ∃ a : Nat, ∃ b : Nat, ∃ c : Nat, p0 = nI a ∧ p1 = nI b ∧ p2 = nI c ∧ a < 6 ∧ b < n ∧ c < n ∧ v = sg n (c7 (cm a) (w8 (w8 1754760 b c) c b)) ∧ HX n (e + nI 1) r q (up cm a (c7 (cm a) (w8 (w8 1754760 b c) c b))) w' ∧ FH w w')) (fun E w' => ((E = "java/lang/IndexOutOfBoundsException" ∧ ¬ (isN p0 6 ∧ isN p1 n ∧ isN p2 n))) ∧ w' = w ++ [.inr (99, [])])) := by
  refine jMet_of hs (by decide +kernel) (Nat.le_of_ble_eq_true rfl) (L := [some (.ref 0), some (.int p0), some (.int p1), some (.int p2), none]) rfl ?_
  obtain ⟨h0, h1⟩ := hH
  have hG : FH w w := FH.rf
  refine J_iload_n (pc := 0) dX6_exchange_0 rfl rfl ?_
  refine J_callS (pc := 1) (M := mX6_exchange) (as := [.int p0]) dX6_exchange_1 fw_X6_needCell fl_X6_67 fs_X6_needCell rfl (c_X6_needCell_att hs (d := d - 1) (by omega) (w := w) p0 (kc := 1) (ks := 6) (Nat.le_refl _) (Nat.le_refl _)) (by omega) (by omega) (by omega) (st := []) (Nat.le_of_ble_eq_true rfl) rfl (kr_X (kr_V fun w1 hw1 => ?_)) (kx_X fun E1 w1 hx1 => ?_)
  · obtain ⟨hq1, hp1⟩ := hw1
    obtain rfl := hq1.symm
    obtain ⟨b1, hb1, rfl⟩ := hp1
    refine J_aload_n (pc := 4) dX6_exchange_4 rfl rfl rfl ?_
    refine J_iload_n (pc := 5) dX6_exchange_5 rfl rfl ?_
    refine J_callV (pc := 6) (M := mX6_exchange) (as := [.int p1]) dX6_exchange_6 fw_X6_needPoint fl_X6_86 fm_X6_needPoint fe_X6_needPoint h0 (by decide) rfl rfl rfl (c_X6_needPoint_att hs (d := d - 1) (by omega) (n := n) (e := e) (r := r) (q := q) hn1 hn2 h0 (w := w) p1 (kc := 1) (ks := 6) (Nat.le_refl _) (Nat.le_refl _)) (by omega) (by omega) (by omega) (st := []) (Nat.le_of_ble_eq_true rfl) rfl (kr_X (kr_V fun w2 hw2 => ?_)) (kx_X fun E2 w2 hx2 => ?_)
    · obtain ⟨hq2, hp2⟩ := hw2
      obtain rfl := hq2.symm
      obtain ⟨b2, hb2, rfl⟩ := hp2
      refine J_aload_n (pc := 9) dX6_exchange_9 rfl rfl rfl ?_
      refine J_iload_n (pc := 10) dX6_exchange_10 rfl rfl ?_
      refine J_callV (pc := 11) (M := mX6_exchange) (as := [.int p2]) dX6_exchange_11 fw_X6_needPoint fl_X6_86 fm_X6_needPoint fe_X6_needPoint h0 (by decide) rfl rfl rfl (c_X6_needPoint_att hs (d := d - 1) (by omega) (n := n) (e := e) (r := r) (q := q) hn1 hn2 h0 (w := w) p2 (kc := 1) (ks := 6) (Nat.le_refl _) (Nat.le_refl _)) (by omega) (by omega) (by omega) (st := []) (Nat.le_of_ble_eq_true rfl) rfl (kr_X (kr_V fun w3 hw3 => ?_)) (kx_X fun E3 w3 hx3 => ?_)
      · obtain ⟨hq3, hp3⟩ := hw3
        obtain rfl := hq3.symm
        obtain ⟨b3, hb3, rfl⟩ := hp3
        refine J_ldc (pc := 14) (v := nI 1754760) dX6_exchange_14 (by have := fk_X6_56; exact this) ?_
        refine J_iload_n (pc := 16) dX6_exchange_16 rfl rfl ?_
        refine J_iload_n (pc := 17) dX6_exchange_17 rfl rfl ?_
        refine J_callS0 (pc := 18) (M := mX6_exchange) (as := [.int (nI 1754760), .int (nI b2), .int (nI b3)]) dX6_exchange_18 fw_X2_with fl_X6_89 fs_X2_with rfl (c_X2_with_atx hs (d := d - 1) (by omega) (w := w) 1754760 b2 b3 (by decide) (by omega) (by omega) (kc := 0) (ks := 0)) (by omega) (st := []) (Nat.le_of_ble_eq_true rfl) rfl (kr_P fun v4 hv4 => ?_) kx_I
        subst hv4
        refine J_iload_n (pc := 21) dX6_exchange_21 rfl rfl ?_
        refine J_iload_n (pc := 22) dX6_exchange_22 rfl rfl ?_
        refine J_callS0 (pc := 23) (M := mX6_exchange) (as := [.int (nI (w8 1754760 b2 b3)), .int (nI b3), .int (nI b2)]) dX6_exchange_23 fw_X2_with fl_X6_89 fs_X2_with rfl (c_X2_with_atx hs (d := d - 1) (by omega) (w := w) (w8 1754760 b2 b3) b3 b2 (by exact w8_lt (by decide) (by omega) (by omega)) (by omega) (by omega) (kc := 0) (ks := 0)) (by omega) (st := []) (Nat.le_of_ble_eq_true rfl) rfl (kr_P fun v5 hv5 => ?_) kx_I
        subst hv5
        refine J_istore (pc := 26) dX6_exchange_26 (by decide) rfl ?_
        show J X mX6_exchange d (kc - 1 - 1 - 1) (ks - 6 - 6 - 6) 28 [some (.ref 0), some (.int (nI b1)), some (.int (nI b2)), some (.int (nI b3)), some (.int (nI (w8 (w8 1754760 b2 b3) b3 b2)))] [] w _
        refine J_aload_n (pc := 28) dX6_exchange_28 rfl rfl rfl ?_
        refine J_iload_n (pc := 29) dX6_exchange_29 rfl rfl ?_
        refine J_aload_n (pc := 30) dX6_exchange_30 rfl rfl rfl ?_
        refine J_get (pc := 31) (k := 0) dX6_exchange_31 kC7 (by decide) ff_X6_9 h0 rfl ?_
        refine J_iload_n (pc := 34) dX6_exchange_34 rfl rfl ?_
        refine J_ialdF (pc := 35) dX6_exchange_35 h1 (by omega) (by decide) ?_
        refine J_iload (pc := 36) dX6_exchange_36 rfl ?_
        refine J_callS0 (pc := 38) (M := mX6_exchange) (as := [.int (nI (cm b1)), .int (nI (w8 (w8 1754760 b2 b3) b3 b2))]) dX6_exchange_38 fw_X2_both fl_X6_93 fs_X2_both rfl (c_X2_both_atx hs (d := d - 1) (by omega) (w := w) (cm b1) (w8 (w8 1754760 b2 b3) b3 b2) (by exact (hcm _ (by assumption)).1) (by exact w8_lt (w8_lt (by decide) (by omega) (by omega)) (by omega) (by omega)) (kc := 0) (ks := 0)) (by omega) (st := [.int (nI b1), .ref 0]) (Nat.le_of_ble_eq_true rfl) rfl (kr_P fun v6 hv6 => ?_) kx_I
        subst hv6
        refine J_callV0 (pc := 41) (M := mX6_exchange) (as := [.int (nI b1), .int (nI (c7 (cm b1) (w8 (w8 1754760 b2 b3) b3 b2)))]) dX6_exchange_41 fw_X6_keepForSign fl_X6_96 fm_X6_keepForSign fe_X6_keepForSign h0 (by decide) rfl rfl rfl (c_X6_keepForSign_atx hs (d := d - 1) (by omega) (n := n) (e := e) (r := r) (q := q) (cm := cm) ⟨h0, h1⟩ hn1 hn2 hcm (w := w) b1 (c7 (cm b1) (w8 (w8 1754760 b2 b3) b3 b2)) (by first | assumption | omega) (by exact c7_Mv hn2 (hcm _ hb1) (by rw [w8_2 hn2 hb2 hb3]; exact mkM_Mv hn2 (sw2_Pn hb2 hb3))) (kc := 0) (ks := 0)) (by omega) (st := []) (Nat.le_of_ble_eq_true rfl) rfl (kr_I fun v7 w7 hv7 hw7 => ?_) kx_I
        obtain ⟨⟨h0_7, h1_7⟩, hGc7⟩ := hw7
        have hG7 := hG.tr hGc7
        subst hv7
        exact J_iret (pc := 44) dX6_exchange_44 rfl (⟨b1, b2, b3, rfl, rfl, rfl, hb1, hb2, hb3, (by rfl), ⟨h0_7, h1_7⟩, hG7⟩)
      · exact JX_out (fun _ h => nomatch h) (by obtain ⟨h1x, h2x, h3x⟩ := hx3; exact ⟨⟨h1x, fun g => ne_isN h3x g.2.2⟩, h2x⟩)
    · exact JX_out (fun _ h => nomatch h) (by obtain ⟨h1x, h2x, h3x⟩ := hx2; exact ⟨⟨h1x, fun g => ne_isN h3x g.2.1⟩, h2x⟩)
  · exact JX_out (fun _ h => nomatch h) (by obtain ⟨h1x, h2x, h3x⟩ := hx1; exact ⟨⟨h1x, fun g => ne_isN h3x g.1⟩, h2x⟩)
set_option maxRecDepth 100000 in
set_option maxHeartbeats 4000000 in
theorem c_X6_ring_atx {X : jX} (hs : X.1.stackTraces = false) {d : Nat} (hd : 12 ≤ d) {n : Nat} {e r q : Int32} {cm : Nat → Nat} {w : List jC} (hH : HX n e r q cm w) (hn1 : 2 ≤ n) (hn2 : n ≤ 7) (hcm : ∀ c, c < 6 → Mv n (cm c)) (p0 : Int32) (p1 : Int32) (p2 : Int32) (p3 : Int32) {kc ks : Nat} (hkc : 5 ≤ kc) (hks : 30 ≤ ks) : jMet X mX6_ring d kc ks [.ref 0, .int p0, .int p1, .int p2, .int p3] w (pX (pJ (fun v w' => ∃ a : Nat, ∃ b : Nat, ∃ c : Nat, ∃ f : Nat, p0 = nI a ∧ p1 = nI b ∧ p2 = nI c ∧ p3 = nI f ∧ a < 6 ∧ b < n ∧ c < n ∧ f < n ∧ b ≠ c ∧ c ≠ f ∧ f ≠ b ∧ v = sg n (c7 (cm a) (w8 (w8 (w8 1754760 b c) c f) f b)) ∧ HX n (e + nI 1) r q (up cm a (c7 (cm a) (w8 (w8 (w8 1754760 b c) c f) f b))) w' ∧ FH w w')) (fun E w' => ((E = "java/lang/IndexOutOfBoundsException" ∧ ¬ (isN p0 6 ∧ isN p1 n ∧ isN p2 n ∧ isN p3 n)) ∨ (E = "java/lang/IllegalArgumentException" ∧ (isN p0 6 ∧ isN p1 n ∧ isN p2 n ∧ isN p3 n) ∧ ¬ (p1 ≠ p2 ∧ p2 ≠ p3 ∧ p3 ≠ p1))) ∧ w' = w ++ [.inr (99, [])])) := by
  refine jMet_of hs (by decide +kernel) (Nat.le_of_ble_eq_true rfl) (L := [some (.ref 0), some (.int p0), some (.int p1), some (.int p2), some (.int p3), none]) rfl ?_
  obtain ⟨h0, h1⟩ := hH
  have hG : FH w w := FH.rf
  refine J_iload_n (pc := 0) dX6_ring_0 rfl rfl ?_
  refine J_callS (pc := 1) (M := mX6_ring) (as := [.int p0]) dX6_ring_1 fw_X6_needCell fl_X6_67 fs_X6_needCell rfl (c_X6_needCell_att hs (d := d - 1) (by omega) (w := w) p0 (kc := 1) (ks := 6) (Nat.le_refl _) (Nat.le_refl _)) (by omega) (by omega) (by omega) (st := []) (Nat.le_of_ble_eq_true rfl) rfl (kr_X (kr_V fun w1 hw1 => ?_)) (kx_X fun E1 w1 hx1 => ?_)
  · obtain ⟨hq1, hp1⟩ := hw1
    obtain rfl := hq1.symm
    obtain ⟨b1, hb1, rfl⟩ := hp1
    refine J_aload_n (pc := 4) dX6_ring_4 rfl rfl rfl ?_
    refine J_iload_n (pc := 5) dX6_ring_5 rfl rfl ?_
    refine J_callV (pc := 6) (M := mX6_ring) (as := [.int p1]) dX6_ring_6 fw_X6_needPoint fl_X6_86 fm_X6_needPoint fe_X6_needPoint h0 (by decide) rfl rfl rfl (c_X6_needPoint_att hs (d := d - 1) (by omega) (n := n) (e := e) (r := r) (q := q) hn1 hn2 h0 (w := w) p1 (kc := 1) (ks := 6) (Nat.le_refl _) (Nat.le_refl _)) (by omega) (by omega) (by omega) (st := []) (Nat.le_of_ble_eq_true rfl) rfl (kr_X (kr_V fun w2 hw2 => ?_)) (kx_X fun E2 w2 hx2 => ?_)
    · obtain ⟨hq2, hp2⟩ := hw2
      obtain rfl := hq2.symm
      obtain ⟨b2, hb2, rfl⟩ := hp2
      refine J_aload_n (pc := 9) dX6_ring_9 rfl rfl rfl ?_
      refine J_iload_n (pc := 10) dX6_ring_10 rfl rfl ?_
      refine J_callV (pc := 11) (M := mX6_ring) (as := [.int p2]) dX6_ring_11 fw_X6_needPoint fl_X6_86 fm_X6_needPoint fe_X6_needPoint h0 (by decide) rfl rfl rfl (c_X6_needPoint_att hs (d := d - 1) (by omega) (n := n) (e := e) (r := r) (q := q) hn1 hn2 h0 (w := w) p2 (kc := 1) (ks := 6) (Nat.le_refl _) (Nat.le_refl _)) (by omega) (by omega) (by omega) (st := []) (Nat.le_of_ble_eq_true rfl) rfl (kr_X (kr_V fun w3 hw3 => ?_)) (kx_X fun E3 w3 hx3 => ?_)
      · obtain ⟨hq3, hp3⟩ := hw3
        obtain rfl := hq3.symm
        obtain ⟨b3, hb3, rfl⟩ := hp3
        refine J_aload_n (pc := 14) dX6_ring_14 rfl rfl rfl ?_
        refine J_iload (pc := 15) dX6_ring_15 rfl ?_
        refine J_callV (pc := 17) (M := mX6_ring) (as := [.int p3]) dX6_ring_17 fw_X6_needPoint fl_X6_86 fm_X6_needPoint fe_X6_needPoint h0 (by decide) rfl rfl rfl (c_X6_needPoint_att hs (d := d - 1) (by omega) (n := n) (e := e) (r := r) (q := q) hn1 hn2 h0 (w := w) p3 (kc := 1) (ks := 6) (Nat.le_refl _) (Nat.le_refl _)) (by omega) (by omega) (by omega) (st := []) (Nat.le_of_ble_eq_true rfl) rfl (kr_X (kr_V fun w4 hw4 => ?_)) (kx_X fun E4 w4 hx4 => ?_)
        · obtain ⟨hq4, hp4⟩ := hw4
          obtain rfl := hq4.symm
          obtain ⟨b4, hb4, rfl⟩ := hp4
          refine J_iload_n (pc := 20) dX6_ring_20 rfl rfl ?_
          refine J_iload_n (pc := 21) dX6_ring_21 rfl rfl ?_
          refine J_icmp_eqN (pc := 22) (tgt := 41) dX6_ring_22 (by decide) (by omega) (by omega) (fun ht5 => ?_) (fun hf6 => ?_)
          · refine J_iconst (pc := 41) (v := nI 0) dX6_ring_41 (by decide) ?_
            refine J_callS (pc := 42) (M := mX6_ring) (as := [.int (nI 0)]) dX6_ring_42 fw_X6_need fl_X6_99 fs_X6_need rfl (c_X6_need_att hs (d := d - 1) (by omega) (w := w) 0 (by first | assumption | omega) (kc := 1) (ks := 6) (Nat.le_refl _) (Nat.le_refl _)) (by omega) (by omega) (by omega) (st := []) (Nat.le_of_ble_eq_true rfl) rfl (kr_X (kr_V fun w7 hw7 => ?_)) (kx_X fun E7 w7 hx7 => ?_)
            · obtain ⟨hq7, hp7⟩ := hw7
              obtain rfl := hq7.symm
              exact absurd rfl hp7
            · exact JX_out (fun _ h => nomatch h) (by obtain ⟨h1x, h2x, h3x⟩ := hx7; exact ⟨Or.inr ⟨h1x, ⟨isN_of (by assumption), isN_of (by assumption), isN_of (by assumption), isN_of (by assumption)⟩, fun g => by first | exact absurd h3x (by decide) | exact g.1 (congrArg nI (by assumption)) | exact g.2.1 (congrArg nI (by assumption)) | exact g.2.2 (congrArg nI (by assumption))⟩, h2x⟩)
          · refine J_iload_n (pc := 25) dX6_ring_25 rfl rfl ?_
            refine J_iload (pc := 26) dX6_ring_26 rfl ?_
            refine J_icmp_eqN (pc := 28) (tgt := 41) dX6_ring_28 (by decide) (by omega) (by omega) (fun ht8 => ?_) (fun hf9 => ?_)
            · refine J_iconst (pc := 41) (v := nI 0) dX6_ring_41 (by decide) ?_
              refine J_callS (pc := 42) (M := mX6_ring) (as := [.int (nI 0)]) dX6_ring_42 fw_X6_need fl_X6_99 fs_X6_need rfl (c_X6_need_att hs (d := d - 1) (by omega) (w := w) 0 (by first | assumption | omega) (kc := 1) (ks := 6) (Nat.le_refl _) (Nat.le_refl _)) (by omega) (by omega) (by omega) (st := []) (Nat.le_of_ble_eq_true rfl) rfl (kr_X (kr_V fun w10 hw10 => ?_)) (kx_X fun E10 w10 hx10 => ?_)
              · obtain ⟨hq10, hp10⟩ := hw10
                obtain rfl := hq10.symm
                exact absurd rfl hp10
              · exact JX_out (fun _ h => nomatch h) (by obtain ⟨h1x, h2x, h3x⟩ := hx10; exact ⟨Or.inr ⟨h1x, ⟨isN_of (by assumption), isN_of (by assumption), isN_of (by assumption), isN_of (by assumption)⟩, fun g => by first | exact absurd h3x (by decide) | exact g.1 (congrArg nI (by assumption)) | exact g.2.1 (congrArg nI (by assumption)) | exact g.2.2 (congrArg nI (by assumption))⟩, h2x⟩)
            · refine J_iload (pc := 31) dX6_ring_31 rfl ?_
              refine J_iload_n (pc := 33) dX6_ring_33 rfl rfl ?_
              refine J_icmp_eqN (pc := 34) (tgt := 41) dX6_ring_34 (by decide) (by omega) (by omega) (fun ht11 => ?_) (fun hf12 => ?_)
              · refine J_iconst (pc := 41) (v := nI 0) dX6_ring_41 (by decide) ?_
                refine J_callS (pc := 42) (M := mX6_ring) (as := [.int (nI 0)]) dX6_ring_42 fw_X6_need fl_X6_99 fs_X6_need rfl (c_X6_need_att hs (d := d - 1) (by omega) (w := w) 0 (by first | assumption | omega) (kc := 1) (ks := 6) (Nat.le_refl _) (Nat.le_refl _)) (by omega) (by omega) (by omega) (st := []) (Nat.le_of_ble_eq_true rfl) rfl (kr_X (kr_V fun w13 hw13 => ?_)) (kx_X fun E13 w13 hx13 => ?_)
                · obtain ⟨hq13, hp13⟩ := hw13
                  obtain rfl := hq13.symm
                  exact absurd rfl hp13
                · exact JX_out (fun _ h => nomatch h) (by obtain ⟨h1x, h2x, h3x⟩ := hx13; exact ⟨Or.inr ⟨h1x, ⟨isN_of (by assumption), isN_of (by assumption), isN_of (by assumption), isN_of (by assumption)⟩, fun g => by first | exact absurd h3x (by decide) | exact g.1 (congrArg nI (by assumption)) | exact g.2.1 (congrArg nI (by assumption)) | exact g.2.2 (congrArg nI (by assumption))⟩, h2x⟩)
              · refine J_iconst (pc := 37) (v := nI 1) dX6_ring_37 (by decide) ?_
                refine J_goto (pc := 38) (tgt := 42) dX6_ring_38 (by decide) ?_
                refine J_callS (pc := 42) (M := mX6_ring) (as := [.int (nI 1)]) dX6_ring_42 fw_X6_need fl_X6_99 fs_X6_need rfl (c_X6_need_att hs (d := d - 1) (by omega) (w := w) 1 (by first | assumption | omega) (kc := 1) (ks := 6) (Nat.le_refl _) (Nat.le_refl _)) (by omega) (by omega) (by omega) (st := []) (Nat.le_of_ble_eq_true rfl) rfl (kr_X (kr_V fun w14 hw14 => ?_)) (kx_X fun E14 w14 hx14 => ?_)
                · obtain ⟨hq14, hp14⟩ := hw14
                  obtain rfl := hq14.symm
                  refine J_ldc (pc := 45) (v := nI 1754760) dX6_ring_45 (by have := fk_X6_56; exact this) ?_
                  refine J_iload_n (pc := 47) dX6_ring_47 rfl rfl ?_
                  refine J_iload_n (pc := 48) dX6_ring_48 rfl rfl ?_
                  refine J_callS0 (pc := 49) (M := mX6_ring) (as := [.int (nI 1754760), .int (nI b2), .int (nI b3)]) dX6_ring_49 fw_X2_with fl_X6_89 fs_X2_with rfl (c_X2_with_atx hs (d := d - 1) (by omega) (w := w) 1754760 b2 b3 (by decide) (by omega) (by omega) (kc := 0) (ks := 0)) (by omega) (st := []) (Nat.le_of_ble_eq_true rfl) rfl (kr_P fun v15 hv15 => ?_) kx_I
                  subst hv15
                  refine J_iload_n (pc := 52) dX6_ring_52 rfl rfl ?_
                  refine J_iload (pc := 53) dX6_ring_53 rfl ?_
                  refine J_callS0 (pc := 55) (M := mX6_ring) (as := [.int (nI (w8 1754760 b2 b3)), .int (nI b3), .int (nI b4)]) dX6_ring_55 fw_X2_with fl_X6_89 fs_X2_with rfl (c_X2_with_atx hs (d := d - 1) (by omega) (w := w) (w8 1754760 b2 b3) b3 b4 (by exact w8_lt (by decide) (by omega) (by omega)) (by omega) (by omega) (kc := 0) (ks := 0)) (by omega) (st := []) (Nat.le_of_ble_eq_true rfl) rfl (kr_P fun v16 hv16 => ?_) kx_I
                  subst hv16
                  refine J_iload (pc := 58) dX6_ring_58 rfl ?_
                  refine J_iload_n (pc := 60) dX6_ring_60 rfl rfl ?_
                  refine J_callS0 (pc := 61) (M := mX6_ring) (as := [.int (nI (w8 (w8 1754760 b2 b3) b3 b4)), .int (nI b4), .int (nI b2)]) dX6_ring_61 fw_X2_with fl_X6_89 fs_X2_with rfl (c_X2_with_atx hs (d := d - 1) (by omega) (w := w) (w8 (w8 1754760 b2 b3) b3 b4) b4 b2 (by exact w8_lt (w8_lt (by decide) (by omega) (by omega)) (by omega) (by omega)) (by omega) (by omega) (kc := 0) (ks := 0)) (by omega) (st := []) (Nat.le_of_ble_eq_true rfl) rfl (kr_P fun v17 hv17 => ?_) kx_I
                  subst hv17
                  refine J_istore (pc := 64) dX6_ring_64 (by decide) rfl ?_
                  show J X mX6_ring d (kc - 1 - 1 - 1 - 1 - 1) (ks - 6 - 6 - 6 - 6 - 6) 66 [some (.ref 0), some (.int (nI b1)), some (.int (nI b2)), some (.int (nI b3)), some (.int (nI b4)), some (.int (nI (w8 (w8 (w8 1754760 b2 b3) b3 b4) b4 b2)))] [] w _
                  refine J_aload_n (pc := 66) dX6_ring_66 rfl rfl rfl ?_
                  refine J_iload_n (pc := 67) dX6_ring_67 rfl rfl ?_
                  refine J_aload_n (pc := 68) dX6_ring_68 rfl rfl rfl ?_
                  refine J_get (pc := 69) (k := 0) dX6_ring_69 kC7 (by decide) ff_X6_9 h0 rfl ?_
                  refine J_iload_n (pc := 72) dX6_ring_72 rfl rfl ?_
                  refine J_ialdF (pc := 73) dX6_ring_73 h1 (by omega) (by decide) ?_
                  refine J_iload (pc := 74) dX6_ring_74 rfl ?_
                  refine J_callS0 (pc := 76) (M := mX6_ring) (as := [.int (nI (cm b1)), .int (nI (w8 (w8 (w8 1754760 b2 b3) b3 b4) b4 b2))]) dX6_ring_76 fw_X2_both fl_X6_93 fs_X2_both rfl (c_X2_both_atx hs (d := d - 1) (by omega) (w := w) (cm b1) (w8 (w8 (w8 1754760 b2 b3) b3 b4) b4 b2) (by exact (hcm _ (by assumption)).1) (by exact w8_lt (w8_lt (w8_lt (by decide) (by omega) (by omega)) (by omega) (by omega)) (by omega) (by omega)) (kc := 0) (ks := 0)) (by omega) (st := [.int (nI b1), .ref 0]) (Nat.le_of_ble_eq_true rfl) rfl (kr_P fun v18 hv18 => ?_) kx_I
                  subst hv18
                  refine J_callV0 (pc := 79) (M := mX6_ring) (as := [.int (nI b1), .int (nI (c7 (cm b1) (w8 (w8 (w8 1754760 b2 b3) b3 b4) b4 b2)))]) dX6_ring_79 fw_X6_keepForSign fl_X6_96 fm_X6_keepForSign fe_X6_keepForSign h0 (by decide) rfl rfl rfl (c_X6_keepForSign_atx hs (d := d - 1) (by omega) (n := n) (e := e) (r := r) (q := q) (cm := cm) ⟨h0, h1⟩ hn1 hn2 hcm (w := w) b1 (c7 (cm b1) (w8 (w8 (w8 1754760 b2 b3) b3 b4) b4 b2)) (by first | assumption | omega) (by exact c7_Mv hn2 (hcm _ hb1) (by rw [w8_3 hn2 hb2 hb3 hb4]; exact mkM_Mv hn2 (sw3_Pn hb2 hb3 hb4 (by assumption) (by assumption) (by assumption)))) (kc := 0) (ks := 0)) (by omega) (st := []) (Nat.le_of_ble_eq_true rfl) rfl (kr_I fun v19 w19 hv19 hw19 => ?_) kx_I
                  obtain ⟨⟨h0_19, h1_19⟩, hGc19⟩ := hw19
                  have hG19 := hG.tr hGc19
                  subst hv19
                  exact J_iret (pc := 82) dX6_ring_82 rfl (⟨b1, b2, b3, b4, rfl, rfl, rfl, rfl, hb1, hb2, hb3, hb4, (by assumption), (by assumption), (by assumption), (by rfl), ⟨h0_19, h1_19⟩, hG19⟩)
                · exact JX_out (fun _ h => nomatch h) (by obtain ⟨h1x, h2x, h3x⟩ := hx14; exact ⟨Or.inr ⟨h1x, ⟨isN_of (by assumption), isN_of (by assumption), isN_of (by assumption), isN_of (by assumption)⟩, fun g => by first | exact absurd h3x (by decide) | exact g.1 (congrArg nI (by assumption)) | exact g.2.1 (congrArg nI (by assumption)) | exact g.2.2 (congrArg nI (by assumption))⟩, h2x⟩)
        · exact JX_out (fun _ h => nomatch h) (by obtain ⟨h1x, h2x, h3x⟩ := hx4; exact ⟨Or.inl ⟨h1x, fun g => ne_isN h3x g.2.2.2⟩, h2x⟩)
      · exact JX_out (fun _ h => nomatch h) (by obtain ⟨h1x, h2x, h3x⟩ := hx3; exact ⟨Or.inl ⟨h1x, fun g => ne_isN h3x g.2.2.1⟩, h2x⟩)
    · exact JX_out (fun _ h => nomatch h) (by obtain ⟨h1x, h2x, h3x⟩ := hx2; exact ⟨Or.inl ⟨h1x, fun g => ne_isN h3x g.2.1⟩, h2x⟩)
  · exact JX_out (fun _ h => nomatch h) (by obtain ⟨h1x, h2x, h3x⟩ := hx1; exact ⟨Or.inl ⟨h1x, fun g => ne_isN h3x g.1⟩, h2x⟩)
set_option maxRecDepth 100000 in
set_option maxHeartbeats 4000000 in
theorem c_X6_copy_atx {X : jX} (hs : X.1.stackTraces = false) {d : Nat} (hd : 12 ≤ d) {n : Nat} {e r q : Int32} {cm : Nat → Nat} {w : List jC} (hH : HX n e r q cm w) (hn1 : 2 ≤ n) (hn2 : n ≤ 7) (hcm : ∀ c, c < 6 → Mv n (cm c)) (p0 : Int32) (p1 : Int32) {kc ks : Nat} (hkc : 2 ≤ kc) (hks : 12 ≤ ks) : jMet X mX6_copy d kc ks [.ref 0, .int p0, .int p1] w (pX (pJ (fun v w' => ∃ a : Nat, ∃ b : Nat, p0 = nI a ∧ p1 = nI b ∧ a < 6 ∧ b < 6 ∧ v = (if cm b = cm a then nI 0 else nI 1) ∧ HX n (e + nI 1) r q (up cm b (cm a)) w' ∧ FH w w')) (fun E w' => ((E = "java/lang/IndexOutOfBoundsException" ∧ ¬ (isN p0 6 ∧ isN p1 6))) ∧ w' = w ++ [.inr (99, [])])) := by
  refine jMet_of hs (by decide +kernel) (Nat.le_of_ble_eq_true rfl) (L := [some (.ref 0), some (.int p0), some (.int p1), none]) rfl ?_
  obtain ⟨h0, h1⟩ := hH
  have hG : FH w w := FH.rf
  refine J_iload_n (pc := 0) dX6_copy_0 rfl rfl ?_
  refine J_callS (pc := 1) (M := mX6_copy) (as := [.int p0]) dX6_copy_1 fw_X6_needCell fl_X6_67 fs_X6_needCell rfl (c_X6_needCell_att hs (d := d - 1) (by omega) (w := w) p0 (kc := 1) (ks := 6) (Nat.le_refl _) (Nat.le_refl _)) (by omega) (by omega) (by omega) (st := []) (Nat.le_of_ble_eq_true rfl) rfl (kr_X (kr_V fun w1 hw1 => ?_)) (kx_X fun E1 w1 hx1 => ?_)
  · obtain ⟨hq1, hp1⟩ := hw1
    obtain rfl := hq1.symm
    obtain ⟨b1, hb1, rfl⟩ := hp1
    refine J_iload_n (pc := 4) dX6_copy_4 rfl rfl ?_
    refine J_callS (pc := 5) (M := mX6_copy) (as := [.int p1]) dX6_copy_5 fw_X6_needCell fl_X6_67 fs_X6_needCell rfl (c_X6_needCell_att hs (d := d - 1) (by omega) (w := w) p1 (kc := 1) (ks := 6) (Nat.le_refl _) (Nat.le_refl _)) (by omega) (by omega) (by omega) (st := []) (Nat.le_of_ble_eq_true rfl) rfl (kr_X (kr_V fun w2 hw2 => ?_)) (kx_X fun E2 w2 hx2 => ?_)
    · obtain ⟨hq2, hp2⟩ := hw2
      obtain rfl := hq2.symm
      obtain ⟨b2, hb2, rfl⟩ := hp2
      refine J_aload_n (pc := 8) dX6_copy_8 rfl rfl rfl ?_
      refine J_get (pc := 9) (k := 0) dX6_copy_9 kC7 (by decide) ff_X6_9 h0 rfl ?_
      refine J_iload_n (pc := 12) dX6_copy_12 rfl rfl ?_
      refine J_ialdF (pc := 13) dX6_copy_13 h1 (by omega) (by decide) ?_
      refine J_istore_n (pc := 14) dX6_copy_14 rfl (by decide) rfl ?_
      show J X mX6_copy d (kc - 1 - 1) (ks - 6 - 6) 15 [some (.ref 0), some (.int (nI b1)), some (.int (nI b2)), some (.int (nI (cm b2)))] [] w _
      refine J_aload_n (pc := 15) dX6_copy_15 rfl rfl rfl ?_
      refine J_iload_n (pc := 16) dX6_copy_16 rfl rfl ?_
      refine J_aload_n (pc := 17) dX6_copy_17 rfl rfl rfl ?_
      refine J_get (pc := 18) (k := 0) dX6_copy_18 kC7 (by decide) ff_X6_9 h0 rfl ?_
      refine J_iload_n (pc := 21) dX6_copy_21 rfl rfl ?_
      refine J_ialdF (pc := 22) dX6_copy_22 h1 (by omega) (by decide) ?_
      refine J_callV0 (pc := 23) (M := mX6_copy) (as := [.int (nI b2), .int (nI (cm b1))]) dX6_copy_23 fw_X6_keep fl_X6_82 fm_X6_keep fe_X6_keep h0 (by decide) rfl rfl rfl (c_X6_keep_atx hs (d := d - 1) (by omega) (n := n) (e := e) (r := r) (q := q) (cm := cm) ⟨h0, h1⟩ hn1 hn2 hcm (w := w) b2 (cm b1) (by first | assumption | omega) (kc := 0) (ks := 0)) (by omega) (st := []) (Nat.le_of_ble_eq_true rfl) rfl (kr_V fun w3 hw3 => ?_) kx_V
      obtain ⟨⟨h0_3, h1_3⟩, hGc3⟩ := hw3
      have hG3 := hG.tr hGc3
      refine J_iload_n (pc := 26) dX6_copy_26 rfl rfl ?_
      refine J_aload_n (pc := 27) dX6_copy_27 rfl rfl rfl ?_
      refine J_get (pc := 28) (k := 0) dX6_copy_28 kC7 (by decide) ff_X6_9 h0_3 rfl ?_
      refine J_iload_n (pc := 31) dX6_copy_31 rfl rfl ?_
      refine J_ialdF (pc := 32) dX6_copy_32 h1_3 (by omega) (by decide) ?_
      have hl1 := lt31 (hcm _ hb1).1
      have hl2 := lt31 (hcm _ hb2).1
      have hl3 : up cm b2 (cm b1) b2 < 2 ^ 31 := by rw [up_s]; exact hl1
      refine J_icmp_eqN (pc := 33) (tgt := 40) dX6_copy_33 (by decide) (by omega) (by omega) (fun ht4 => ?_) (fun hf5 => ?_)
      · have hvv : cm b2 = cm b1 := (show cm b2 = up cm b2 (cm b1) b2 by assumption).trans (up_s _ _ _)
        refine J_iconst (pc := 40) (v := nI 0) dX6_copy_40 (by decide) ?_
        exact J_iret (pc := 41) dX6_copy_41 rfl (⟨b1, b2, rfl, rfl, hb1, hb2, (by first | exact (if_pos hvv).symm | exact (if_neg hvv).symm), ⟨h0_3, h1_3⟩, hG3⟩)
      · have hvv : ¬ cm b2 = cm b1 := fun e => (show ¬ cm b2 = up cm b2 (cm b1) b2 by assumption) (e.trans (up_s _ _ _).symm)
        refine J_iconst (pc := 36) (v := nI 1) dX6_copy_36 (by decide) ?_
        refine J_goto (pc := 37) (tgt := 41) dX6_copy_37 (by decide) ?_
        exact J_iret (pc := 41) dX6_copy_41 rfl (⟨b1, b2, rfl, rfl, hb1, hb2, (by first | exact (if_pos hvv).symm | exact (if_neg hvv).symm), ⟨h0_3, h1_3⟩, hG3⟩)
    · exact JX_out (fun _ h => nomatch h) (by obtain ⟨h1x, h2x, h3x⟩ := hx2; exact ⟨⟨h1x, fun g => ne_isN h3x g.2⟩, h2x⟩)
  · exact JX_out (fun _ h => nomatch h) (by obtain ⟨h1x, h2x, h3x⟩ := hx1; exact ⟨⟨h1x, fun g => ne_isN h3x g.1⟩, h2x⟩)
set_option maxRecDepth 100000 in
set_option maxHeartbeats 4000000 in
theorem c_X6_swap_atx {X : jX} (hs : X.1.stackTraces = false) {d : Nat} (hd : 12 ≤ d) {n : Nat} {e r q : Int32} {cm : Nat → Nat} {w : List jC} (hH : HX n e r q cm w) (hn1 : 2 ≤ n) (hn2 : n ≤ 7) (hcm : ∀ c, c < 6 → Mv n (cm c)) (p0 : Int32) (p1 : Int32) {kc ks : Nat} (hkc : 2 ≤ kc) (hks : 12 ≤ ks) : jMet X mX6_swap d kc ks [.ref 0, .int p0, .int p1] w (pX (pJ (fun v w' => ∃ a : Nat, ∃ b : Nat, p0 = nI a ∧ p1 = nI b ∧ a < 6 ∧ b < 6 ∧ v = (if cm a = cm b then nI 0 else nI 1) ∧ HX n (e + nI 1) r q (up (up cm a (cm b)) b (cm a)) w' ∧ FH w w')) (fun E w' => ((E = "java/lang/IndexOutOfBoundsException" ∧ ¬ (isN p0 6 ∧ isN p1 6))) ∧ w' = w ++ [.inr (99, [])])) := by
  refine jMet_of hs (by decide +kernel) (Nat.le_of_ble_eq_true rfl) (L := [some (.ref 0), some (.int p0), some (.int p1), none, none]) rfl ?_
  obtain ⟨h0, h1⟩ := hH
  have hG : FH w w := FH.rf
  refine J_iload_n (pc := 0) dX6_swap_0 rfl rfl ?_
  refine J_callS (pc := 1) (M := mX6_swap) (as := [.int p0]) dX6_swap_1 fw_X6_needCell fl_X6_67 fs_X6_needCell rfl (c_X6_needCell_att hs (d := d - 1) (by omega) (w := w) p0 (kc := 1) (ks := 6) (Nat.le_refl _) (Nat.le_refl _)) (by omega) (by omega) (by omega) (st := []) (Nat.le_of_ble_eq_true rfl) rfl (kr_X (kr_V fun w1 hw1 => ?_)) (kx_X fun E1 w1 hx1 => ?_)
  · obtain ⟨hq1, hp1⟩ := hw1
    obtain rfl := hq1.symm
    obtain ⟨b1, hb1, rfl⟩ := hp1
    refine J_iload_n (pc := 4) dX6_swap_4 rfl rfl ?_
    refine J_callS (pc := 5) (M := mX6_swap) (as := [.int p1]) dX6_swap_5 fw_X6_needCell fl_X6_67 fs_X6_needCell rfl (c_X6_needCell_att hs (d := d - 1) (by omega) (w := w) p1 (kc := 1) (ks := 6) (Nat.le_refl _) (Nat.le_refl _)) (by omega) (by omega) (by omega) (st := []) (Nat.le_of_ble_eq_true rfl) rfl (kr_X (kr_V fun w2 hw2 => ?_)) (kx_X fun E2 w2 hx2 => ?_)
    · obtain ⟨hq2, hp2⟩ := hw2
      obtain rfl := hq2.symm
      obtain ⟨b2, hb2, rfl⟩ := hp2
      refine J_aload_n (pc := 8) dX6_swap_8 rfl rfl rfl ?_
      refine J_get (pc := 9) (k := 0) dX6_swap_9 kC7 (by decide) ff_X6_9 h0 rfl ?_
      refine J_iload_n (pc := 12) dX6_swap_12 rfl rfl ?_
      refine J_ialdF (pc := 13) dX6_swap_13 h1 (by omega) (by decide) ?_
      refine J_istore_n (pc := 14) dX6_swap_14 rfl (by decide) rfl ?_
      show J X mX6_swap d (kc - 1 - 1) (ks - 6 - 6) 15 [some (.ref 0), some (.int (nI b1)), some (.int (nI b2)), some (.int (nI (cm b1))), none] [] w _
      refine J_aload_n (pc := 15) dX6_swap_15 rfl rfl rfl ?_
      refine J_get (pc := 16) (k := 0) dX6_swap_16 kC7 (by decide) ff_X6_9 h0 rfl ?_
      refine J_iload_n (pc := 19) dX6_swap_19 rfl rfl ?_
      refine J_ialdF (pc := 20) dX6_swap_20 h1 (by omega) (by decide) ?_
      refine J_istore (pc := 21) dX6_swap_21 (by decide) rfl ?_
      show J X mX6_swap d (kc - 1 - 1) (ks - 6 - 6) 23 [some (.ref 0), some (.int (nI b1)), some (.int (nI b2)), some (.int (nI (cm b1))), some (.int (nI (cm b2)))] [] w _
      refine J_aload_n (pc := 23) dX6_swap_23 rfl rfl rfl ?_
      refine J_get (pc := 24) (k := 0) dX6_swap_24 kC7 (by decide) ff_X6_9 h0 rfl ?_
      refine J_iload_n (pc := 27) dX6_swap_27 rfl rfl ?_
      refine J_iload (pc := 28) dX6_swap_28 rfl ?_
      refine J_iastF (pc := 30) dX6_swap_30 h1 (by omega) (by decide) (fun w3 hln3 hc3 hne3 => ?_)
      have h0_3 := (hne3 0 (by decide)).trans h0
      have hG3 := hG.st hln3 hne3 (by decide)
      refine J_aload_n (pc := 31) dX6_swap_31 rfl rfl rfl ?_
      refine J_iload_n (pc := 32) dX6_swap_32 rfl rfl ?_
      refine J_iload_n (pc := 33) dX6_swap_33 rfl rfl ?_
      refine J_callV0 (pc := 34) (M := mX6_swap) (as := [.int (nI b2), .int (nI (cm b1))]) dX6_swap_34 fw_X6_keep fl_X6_82 fm_X6_keep fe_X6_keep h0_3 (by decide) rfl rfl rfl (c_X6_keep_atx hs (d := d - 1) (by omega) (n := n) (e := e) (r := r) (q := q) (cm := up cm b1 (cm b2)) ⟨h0_3, hc3⟩ hn1 hn2 (fun c hc => up_M hcm (by omega) (by omega) c hc) (w := w3) b2 (cm b1) (by first | assumption | omega) (kc := 0) (ks := 0)) (by omega) (st := []) (Nat.le_of_ble_eq_true rfl) rfl (kr_V fun w4 hw4 => ?_) kx_V
      obtain ⟨⟨h0_4, h1_4⟩, hGc4⟩ := hw4
      have hG4 := hG3.tr hGc4
      refine J_iload_n (pc := 37) dX6_swap_37 rfl rfl ?_
      refine J_iload (pc := 38) dX6_swap_38 rfl ?_
      have hl1 := lt31 (hcm _ hb1).1
      have hl2 := lt31 (hcm _ hb2).1
      have hl3 : up cm b2 (cm b1) b2 < 2 ^ 31 := by rw [up_s]; exact hl1
      refine J_icmp_eqN (pc := 40) (tgt := 47) dX6_swap_40 (by decide) (by omega) (by omega) (fun ht5 => ?_) (fun hf6 => ?_)
      · refine J_iconst (pc := 47) (v := nI 0) dX6_swap_47 (by decide) ?_
        exact J_iret (pc := 48) dX6_swap_48 rfl (⟨b1, b2, rfl, rfl, hb1, hb2, (by first | exact (if_pos (by assumption)).symm | exact (if_neg (by assumption)).symm), ⟨h0_4, h1_4⟩, hG4⟩)
      · refine J_iconst (pc := 43) (v := nI 1) dX6_swap_43 (by decide) ?_
        refine J_goto (pc := 44) (tgt := 48) dX6_swap_44 (by decide) ?_
        exact J_iret (pc := 48) dX6_swap_48 rfl (⟨b1, b2, rfl, rfl, hb1, hb2, (by first | exact (if_pos (by assumption)).symm | exact (if_neg (by assumption)).symm), ⟨h0_4, h1_4⟩, hG4⟩)
    · exact JX_out (fun _ h => nomatch h) (by obtain ⟨h1x, h2x, h3x⟩ := hx2; exact ⟨⟨h1x, fun g => ne_isN h3x g.2⟩, h2x⟩)
  · exact JX_out (fun _ h => nomatch h) (by obtain ⟨h1x, h2x, h3x⟩ := hx1; exact ⟨⟨h1x, fun g => ne_isN h3x g.1⟩, h2x⟩)
set_option maxRecDepth 100000 in
set_option maxHeartbeats 4000000 in
theorem c_X6_then_atx {X : jX} (hs : X.1.stackTraces = false) {d : Nat} (hd : 12 ≤ d) {n : Nat} {e r q : Int32} {cm : Nat → Nat} {w : List jC} (hH : HX n e r q cm w) (hn1 : 2 ≤ n) (hn2 : n ≤ 7) (hcm : ∀ c, c < 6 → Mv n (cm c)) (p0 : Int32) (p1 : Int32) (p2 : Int32) {kc ks : Nat} (hkc : 3 ≤ kc) (hks : 18 ≤ ks) : jMet X mX6_then d kc ks [.ref 0, .int p0, .int p1, .int p2] w (pX (pJ (fun v w' => ∃ a : Nat, ∃ b : Nat, ∃ c : Nat, p0 = nI a ∧ p1 = nI b ∧ p2 = nI c ∧ a < 6 ∧ b < 6 ∧ c < 6 ∧ v = nI (nu n (c7 (cm a) (cm b))) ∧ HX n (e + nI 1) r q (up cm c (c7 (cm a) (cm b))) w' ∧ FH w w')) (fun E w' => ((E = "java/lang/IndexOutOfBoundsException" ∧ ¬ (isN p0 6 ∧ isN p1 6 ∧ isN p2 6))) ∧ w' = w ++ [.inr (99, [])])) := by
  refine jMet_of hs (by decide +kernel) (Nat.le_of_ble_eq_true rfl) (L := [some (.ref 0), some (.int p0), some (.int p1), some (.int p2)]) rfl ?_
  obtain ⟨h0, h1⟩ := hH
  have hG : FH w w := FH.rf
  refine J_iload_n (pc := 0) dX6_then_0 rfl rfl ?_
  refine J_callS (pc := 1) (M := mX6_then) (as := [.int p0]) dX6_then_1 fw_X6_needCell fl_X6_67 fs_X6_needCell rfl (c_X6_needCell_att hs (d := d - 1) (by omega) (w := w) p0 (kc := 1) (ks := 6) (Nat.le_refl _) (Nat.le_refl _)) (by omega) (by omega) (by omega) (st := []) (Nat.le_of_ble_eq_true rfl) rfl (kr_X (kr_V fun w1 hw1 => ?_)) (kx_X fun E1 w1 hx1 => ?_)
  · obtain ⟨hq1, hp1⟩ := hw1
    obtain rfl := hq1.symm
    obtain ⟨b1, hb1, rfl⟩ := hp1
    refine J_iload_n (pc := 4) dX6_then_4 rfl rfl ?_
    refine J_callS (pc := 5) (M := mX6_then) (as := [.int p1]) dX6_then_5 fw_X6_needCell fl_X6_67 fs_X6_needCell rfl (c_X6_needCell_att hs (d := d - 1) (by omega) (w := w) p1 (kc := 1) (ks := 6) (Nat.le_refl _) (Nat.le_refl _)) (by omega) (by omega) (by omega) (st := []) (Nat.le_of_ble_eq_true rfl) rfl (kr_X (kr_V fun w2 hw2 => ?_)) (kx_X fun E2 w2 hx2 => ?_)
    · obtain ⟨hq2, hp2⟩ := hw2
      obtain rfl := hq2.symm
      obtain ⟨b2, hb2, rfl⟩ := hp2
      refine J_iload_n (pc := 8) dX6_then_8 rfl rfl ?_
      refine J_callS (pc := 9) (M := mX6_then) (as := [.int p2]) dX6_then_9 fw_X6_needCell fl_X6_67 fs_X6_needCell rfl (c_X6_needCell_att hs (d := d - 1) (by omega) (w := w) p2 (kc := 1) (ks := 6) (Nat.le_refl _) (Nat.le_refl _)) (by omega) (by omega) (by omega) (st := []) (Nat.le_of_ble_eq_true rfl) rfl (kr_X (kr_V fun w3 hw3 => ?_)) (kx_X fun E3 w3 hx3 => ?_)
      · obtain ⟨hq3, hp3⟩ := hw3
        obtain rfl := hq3.symm
        obtain ⟨b3, hb3, rfl⟩ := hp3
        refine J_aload_n (pc := 12) dX6_then_12 rfl rfl rfl ?_
        refine J_iload_n (pc := 13) dX6_then_13 rfl rfl ?_
        refine J_aload_n (pc := 14) dX6_then_14 rfl rfl rfl ?_
        refine J_get (pc := 15) (k := 0) dX6_then_15 kC7 (by decide) ff_X6_9 h0 rfl ?_
        refine J_iload_n (pc := 18) dX6_then_18 rfl rfl ?_
        refine J_ialdF (pc := 19) dX6_then_19 h1 (by omega) (by decide) ?_
        refine J_aload_n (pc := 20) dX6_then_20 rfl rfl rfl ?_
        refine J_get (pc := 21) (k := 0) dX6_then_21 kC7 (by decide) ff_X6_9 h0 rfl ?_
        refine J_iload_n (pc := 24) dX6_then_24 rfl rfl ?_
        refine J_ialdF (pc := 25) dX6_then_25 h1 (by omega) (by decide) ?_
        refine J_callS0 (pc := 26) (M := mX6_then) (as := [.int (nI (cm b1)), .int (nI (cm b2))]) dX6_then_26 fw_X2_both fl_X6_93 fs_X2_both rfl (c_X2_both_atx hs (d := d - 1) (by omega) (w := w) (cm b1) (cm b2) (by exact (hcm _ (by assumption)).1) (by exact (hcm _ (by assumption)).1) (kc := 0) (ks := 0)) (by omega) (st := [.int (nI b3), .ref 0]) (Nat.le_of_ble_eq_true rfl) rfl (kr_P fun v4 hv4 => ?_) kx_I
        subst hv4
        refine J_callV0 (pc := 29) (M := mX6_then) (as := [.int (nI b3), .int (nI (c7 (cm b1) (cm b2)))]) dX6_then_29 fw_X6_keepForNumber fl_X6_106 fm_X6_keepForNumber fe_X6_keepForNumber h0 (by decide) rfl rfl rfl (c_X6_keepForNumber_atx hs (d := d - 1) (by omega) (n := n) (e := e) (r := r) (q := q) (cm := cm) ⟨h0, h1⟩ hn1 hn2 hcm (w := w) b3 (c7 (cm b1) (cm b2)) (by first | assumption | omega) (by exact c7_Mv hn2 (hcm _ (by assumption)) (hcm _ (by assumption))) (kc := 0) (ks := 0)) (by omega) (st := []) (Nat.le_of_ble_eq_true rfl) rfl (kr_I fun v5 w5 hv5 hw5 => ?_) kx_I
        obtain ⟨⟨h0_5, h1_5⟩, hGc5⟩ := hw5
        have hG5 := hG.tr hGc5
        subst hv5
        exact J_iret (pc := 32) dX6_then_32 rfl (⟨b1, b2, b3, rfl, rfl, rfl, hb1, hb2, hb3, (by rfl), ⟨h0_5, h1_5⟩, hG5⟩)
      · exact JX_out (fun _ h => nomatch h) (by obtain ⟨h1x, h2x, h3x⟩ := hx3; exact ⟨⟨h1x, fun g => ne_isN h3x g.2.2⟩, h2x⟩)
    · exact JX_out (fun _ h => nomatch h) (by obtain ⟨h1x, h2x, h3x⟩ := hx2; exact ⟨⟨h1x, fun g => ne_isN h3x g.2.1⟩, h2x⟩)
  · exact JX_out (fun _ h => nomatch h) (by obtain ⟨h1x, h2x, h3x⟩ := hx1; exact ⟨⟨h1x, fun g => ne_isN h3x g.1⟩, h2x⟩)
set_option maxRecDepth 100000 in
set_option maxHeartbeats 4000000 in
theorem c_X6_undo_atx {X : jX} (hs : X.1.stackTraces = false) {d : Nat} (hd : 12 ≤ d) {n : Nat} {e r q : Int32} {cm : Nat → Nat} {w : List jC} (hH : HX n e r q cm w) (hn1 : 2 ≤ n) (hn2 : n ≤ 7) (hcm : ∀ c, c < 6 → Mv n (cm c)) (p0 : Int32) (p1 : Int32) {kc ks : Nat} (hkc : 2 ≤ kc) (hks : 12 ≤ ks) : jMet X mX6_undo d kc ks [.ref 0, .int p0, .int p1] w (pX (pJ (fun v w' => ∃ a : Nat, ∃ b : Nat, p0 = nI a ∧ p1 = nI b ∧ a < 6 ∧ b < 6 ∧ v = nI (nu n (i7 (cm a))) ∧ HX n (e + nI 1) r q (up cm b (i7 (cm a))) w' ∧ FH w w')) (fun E w' => ((E = "java/lang/IndexOutOfBoundsException" ∧ ¬ (isN p0 6 ∧ isN p1 6))) ∧ w' = w ++ [.inr (99, [])])) := by
  refine jMet_of hs (by decide +kernel) (Nat.le_of_ble_eq_true rfl) (L := [some (.ref 0), some (.int p0), some (.int p1)]) rfl ?_
  obtain ⟨h0, h1⟩ := hH
  have hG : FH w w := FH.rf
  refine J_iload_n (pc := 0) dX6_undo_0 rfl rfl ?_
  refine J_callS (pc := 1) (M := mX6_undo) (as := [.int p0]) dX6_undo_1 fw_X6_needCell fl_X6_67 fs_X6_needCell rfl (c_X6_needCell_att hs (d := d - 1) (by omega) (w := w) p0 (kc := 1) (ks := 6) (Nat.le_refl _) (Nat.le_refl _)) (by omega) (by omega) (by omega) (st := []) (Nat.le_of_ble_eq_true rfl) rfl (kr_X (kr_V fun w1 hw1 => ?_)) (kx_X fun E1 w1 hx1 => ?_)
  · obtain ⟨hq1, hp1⟩ := hw1
    obtain rfl := hq1.symm
    obtain ⟨b1, hb1, rfl⟩ := hp1
    refine J_iload_n (pc := 4) dX6_undo_4 rfl rfl ?_
    refine J_callS (pc := 5) (M := mX6_undo) (as := [.int p1]) dX6_undo_5 fw_X6_needCell fl_X6_67 fs_X6_needCell rfl (c_X6_needCell_att hs (d := d - 1) (by omega) (w := w) p1 (kc := 1) (ks := 6) (Nat.le_refl _) (Nat.le_refl _)) (by omega) (by omega) (by omega) (st := []) (Nat.le_of_ble_eq_true rfl) rfl (kr_X (kr_V fun w2 hw2 => ?_)) (kx_X fun E2 w2 hx2 => ?_)
    · obtain ⟨hq2, hp2⟩ := hw2
      obtain rfl := hq2.symm
      obtain ⟨b2, hb2, rfl⟩ := hp2
      refine J_aload_n (pc := 8) dX6_undo_8 rfl rfl rfl ?_
      refine J_iload_n (pc := 9) dX6_undo_9 rfl rfl ?_
      refine J_aload_n (pc := 10) dX6_undo_10 rfl rfl rfl ?_
      refine J_get (pc := 11) (k := 0) dX6_undo_11 kC7 (by decide) ff_X6_9 h0 rfl ?_
      refine J_iload_n (pc := 14) dX6_undo_14 rfl rfl ?_
      refine J_ialdF (pc := 15) dX6_undo_15 h1 (by omega) (by decide) ?_
      refine J_callS0 (pc := 16) (M := mX6_undo) (as := [.int (nI (cm b1))]) dX6_undo_16 fw_X2_undone fl_X6_109 fs_X2_undone rfl (c_X2_undone_atx hs (d := d - 1) (by omega) (w := w) (cm b1) (by exact (hcm _ (by assumption)).1) (by exact ((hcm _ (by assumption)).p7 hn2).1) (by exact ((hcm _ (by assumption)).p7 hn2).2) (kc := 0) (ks := 0)) (by omega) (st := [.int (nI b2), .ref 0]) (Nat.le_of_ble_eq_true rfl) rfl (kr_P fun v3 hv3 => ?_) kx_I
      subst hv3
      refine J_callV0 (pc := 19) (M := mX6_undo) (as := [.int (nI b2), .int (nI (i7 (cm b1)))]) dX6_undo_19 fw_X6_keepForNumber fl_X6_106 fm_X6_keepForNumber fe_X6_keepForNumber h0 (by decide) rfl rfl rfl (c_X6_keepForNumber_atx hs (d := d - 1) (by omega) (n := n) (e := e) (r := r) (q := q) (cm := cm) ⟨h0, h1⟩ hn1 hn2 hcm (w := w) b2 (i7 (cm b1)) (by first | assumption | omega) (by exact i7_Mv hn2 (hcm _ (by assumption))) (kc := 0) (ks := 0)) (by omega) (st := []) (Nat.le_of_ble_eq_true rfl) rfl (kr_I fun v4 w4 hv4 hw4 => ?_) kx_I
      obtain ⟨⟨h0_4, h1_4⟩, hGc4⟩ := hw4
      have hG4 := hG.tr hGc4
      subst hv4
      exact J_iret (pc := 22) dX6_undo_22 rfl (⟨b1, b2, rfl, rfl, hb1, hb2, (by rfl), ⟨h0_4, h1_4⟩, hG4⟩)
    · exact JX_out (fun _ h => nomatch h) (by obtain ⟨h1x, h2x, h3x⟩ := hx2; exact ⟨⟨h1x, fun g => ne_isN h3x g.2⟩, h2x⟩)
  · exact JX_out (fun _ h => nomatch h) (by obtain ⟨h1x, h2x, h3x⟩ := hx1; exact ⟨⟨h1x, fun g => ne_isN h3x g.1⟩, h2x⟩)
set_option maxRecDepth 100000 in
set_option maxHeartbeats 4000000 in
theorem c_X6_rename_atx {X : jX} (hs : X.1.stackTraces = false) {d : Nat} (hd : 12 ≤ d) {n : Nat} {e r q : Int32} {cm : Nat → Nat} {w : List jC} (hH : HX n e r q cm w) (hn1 : 2 ≤ n) (hn2 : n ≤ 7) (hcm : ∀ c, c < 6 → Mv n (cm c)) (p0 : Int32) (p1 : Int32) (p2 : Int32) {kc ks : Nat} (hkc : 3 ≤ kc) (hks : 18 ≤ ks) : jMet X mX6_rename d kc ks [.ref 0, .int p0, .int p1, .int p2] w (pX (pJ (fun v w' => ∃ a : Nat, ∃ b : Nat, ∃ c : Nat, p0 = nI a ∧ p1 = nI b ∧ p2 = nI c ∧ a < 6 ∧ b < 6 ∧ c < 6 ∧ v = nI (nu n (c7 (c7 (i7 (cm b)) (cm a)) (cm b))) ∧ HX n (e + nI 1) r q (up cm c (c7 (c7 (i7 (cm b)) (cm a)) (cm b))) w' ∧ FH w w')) (fun E w' => ((E = "java/lang/IndexOutOfBoundsException" ∧ ¬ (isN p0 6 ∧ isN p1 6 ∧ isN p2 6))) ∧ w' = w ++ [.inr (99, [])])) := by
  refine jMet_of hs (by decide +kernel) (Nat.le_of_ble_eq_true rfl) (L := [some (.ref 0), some (.int p0), some (.int p1), some (.int p2), none]) rfl ?_
  obtain ⟨h0, h1⟩ := hH
  have hG : FH w w := FH.rf
  refine J_iload_n (pc := 0) dX6_rename_0 rfl rfl ?_
  refine J_callS (pc := 1) (M := mX6_rename) (as := [.int p0]) dX6_rename_1 fw_X6_needCell fl_X6_67 fs_X6_needCell rfl (c_X6_needCell_att hs (d := d - 1) (by omega) (w := w) p0 (kc := 1) (ks := 6) (Nat.le_refl _) (Nat.le_refl _)) (by omega) (by omega) (by omega) (st := []) (Nat.le_of_ble_eq_true rfl) rfl (kr_X (kr_V fun w1 hw1 => ?_)) (kx_X fun E1 w1 hx1 => ?_)
  · obtain ⟨hq1, hp1⟩ := hw1
    obtain rfl := hq1.symm
    obtain ⟨b1, hb1, rfl⟩ := hp1
    refine J_iload_n (pc := 4) dX6_rename_4 rfl rfl ?_
    refine J_callS (pc := 5) (M := mX6_rename) (as := [.int p1]) dX6_rename_5 fw_X6_needCell fl_X6_67 fs_X6_needCell rfl (c_X6_needCell_att hs (d := d - 1) (by omega) (w := w) p1 (kc := 1) (ks := 6) (Nat.le_refl _) (Nat.le_refl _)) (by omega) (by omega) (by omega) (st := []) (Nat.le_of_ble_eq_true rfl) rfl (kr_X (kr_V fun w2 hw2 => ?_)) (kx_X fun E2 w2 hx2 => ?_)
    · obtain ⟨hq2, hp2⟩ := hw2
      obtain rfl := hq2.symm
      obtain ⟨b2, hb2, rfl⟩ := hp2
      refine J_iload_n (pc := 8) dX6_rename_8 rfl rfl ?_
      refine J_callS (pc := 9) (M := mX6_rename) (as := [.int p2]) dX6_rename_9 fw_X6_needCell fl_X6_67 fs_X6_needCell rfl (c_X6_needCell_att hs (d := d - 1) (by omega) (w := w) p2 (kc := 1) (ks := 6) (Nat.le_refl _) (Nat.le_refl _)) (by omega) (by omega) (by omega) (st := []) (Nat.le_of_ble_eq_true rfl) rfl (kr_X (kr_V fun w3 hw3 => ?_)) (kx_X fun E3 w3 hx3 => ?_)
      · obtain ⟨hq3, hp3⟩ := hw3
        obtain rfl := hq3.symm
        obtain ⟨b3, hb3, rfl⟩ := hp3
        refine J_aload_n (pc := 12) dX6_rename_12 rfl rfl rfl ?_
        refine J_get (pc := 13) (k := 0) dX6_rename_13 kC7 (by decide) ff_X6_9 h0 rfl ?_
        refine J_iload_n (pc := 16) dX6_rename_16 rfl rfl ?_
        refine J_ialdF (pc := 17) dX6_rename_17 h1 (by omega) (by decide) ?_
        refine J_callS0 (pc := 18) (M := mX6_rename) (as := [.int (nI (cm b2))]) dX6_rename_18 fw_X2_undone fl_X6_109 fs_X2_undone rfl (c_X2_undone_atx hs (d := d - 1) (by omega) (w := w) (cm b2) (by exact (hcm _ (by assumption)).1) (by exact ((hcm _ (by assumption)).p7 hn2).1) (by exact ((hcm _ (by assumption)).p7 hn2).2) (kc := 0) (ks := 0)) (by omega) (st := []) (Nat.le_of_ble_eq_true rfl) rfl (kr_P fun v4 hv4 => ?_) kx_I
        subst hv4
        refine J_istore (pc := 21) dX6_rename_21 (by decide) rfl ?_
        show J X mX6_rename d (kc - 1 - 1 - 1) (ks - 6 - 6 - 6) 23 [some (.ref 0), some (.int (nI b1)), some (.int (nI b2)), some (.int (nI b3)), some (.int (nI (i7 (cm b2))))] [] w _
        refine J_aload_n (pc := 23) dX6_rename_23 rfl rfl rfl ?_
        refine J_iload_n (pc := 24) dX6_rename_24 rfl rfl ?_
        refine J_iload (pc := 25) dX6_rename_25 rfl ?_
        refine J_aload_n (pc := 27) dX6_rename_27 rfl rfl rfl ?_
        refine J_get (pc := 28) (k := 0) dX6_rename_28 kC7 (by decide) ff_X6_9 h0 rfl ?_
        refine J_iload_n (pc := 31) dX6_rename_31 rfl rfl ?_
        refine J_ialdF (pc := 32) dX6_rename_32 h1 (by omega) (by decide) ?_
        refine J_callS0 (pc := 33) (M := mX6_rename) (as := [.int (nI (i7 (cm b2))), .int (nI (cm b1))]) dX6_rename_33 fw_X2_both fl_X6_93 fs_X2_both rfl (c_X2_both_atx hs (d := d - 1) (by omega) (w := w) (i7 (cm b2)) (cm b1) (by exact (i7_Mv hn2 (hcm _ (by assumption))).1) (by exact (hcm _ (by assumption)).1) (kc := 0) (ks := 0)) (by omega) (st := [.int (nI b3), .ref 0]) (Nat.le_of_ble_eq_true rfl) rfl (kr_P fun v5 hv5 => ?_) kx_I
        subst hv5
        refine J_aload_n (pc := 36) dX6_rename_36 rfl rfl rfl ?_
        refine J_get (pc := 37) (k := 0) dX6_rename_37 kC7 (by decide) ff_X6_9 h0 rfl ?_
        refine J_iload_n (pc := 40) dX6_rename_40 rfl rfl ?_
        refine J_ialdF (pc := 41) dX6_rename_41 h1 (by omega) (by decide) ?_
        refine J_callS0 (pc := 42) (M := mX6_rename) (as := [.int (nI (c7 (i7 (cm b2)) (cm b1))), .int (nI (cm b2))]) dX6_rename_42 fw_X2_both fl_X6_93 fs_X2_both rfl (c_X2_both_atx hs (d := d - 1) (by omega) (w := w) (c7 (i7 (cm b2)) (cm b1)) (cm b2) (by exact c7_lt _ _) (by exact (hcm _ (by assumption)).1) (kc := 0) (ks := 0)) (by omega) (st := [.int (nI b3), .ref 0]) (Nat.le_of_ble_eq_true rfl) rfl (kr_P fun v6 hv6 => ?_) kx_I
        subst hv6
        refine J_callV0 (pc := 45) (M := mX6_rename) (as := [.int (nI b3), .int (nI (c7 (c7 (i7 (cm b2)) (cm b1)) (cm b2)))]) dX6_rename_45 fw_X6_keepForNumber fl_X6_106 fm_X6_keepForNumber fe_X6_keepForNumber h0 (by decide) rfl rfl rfl (c_X6_keepForNumber_atx hs (d := d - 1) (by omega) (n := n) (e := e) (r := r) (q := q) (cm := cm) ⟨h0, h1⟩ hn1 hn2 hcm (w := w) b3 (c7 (c7 (i7 (cm b2)) (cm b1)) (cm b2)) (by first | assumption | omega) (by exact c7_Mv hn2 (c7_Mv hn2 (i7_Mv hn2 (hcm _ (by assumption))) (hcm _ (by assumption))) (hcm _ (by assumption))) (kc := 0) (ks := 0)) (by omega) (st := []) (Nat.le_of_ble_eq_true rfl) rfl (kr_I fun v7 w7 hv7 hw7 => ?_) kx_I
        obtain ⟨⟨h0_7, h1_7⟩, hGc7⟩ := hw7
        have hG7 := hG.tr hGc7
        subst hv7
        exact J_iret (pc := 48) dX6_rename_48 rfl (⟨b1, b2, b3, rfl, rfl, rfl, hb1, hb2, hb3, (by rfl), ⟨h0_7, h1_7⟩, hG7⟩)
      · exact JX_out (fun _ h => nomatch h) (by obtain ⟨h1x, h2x, h3x⟩ := hx3; exact ⟨⟨h1x, fun g => ne_isN h3x g.2.2⟩, h2x⟩)
    · exact JX_out (fun _ h => nomatch h) (by obtain ⟨h1x, h2x, h3x⟩ := hx2; exact ⟨⟨h1x, fun g => ne_isN h3x g.2.1⟩, h2x⟩)
  · exact JX_out (fun _ h => nomatch h) (by obtain ⟨h1x, h2x, h3x⟩ := hx1; exact ⟨⟨h1x, fun g => ne_isN h3x g.1⟩, h2x⟩)
set_option maxRecDepth 100000 in
set_option maxHeartbeats 4000000 in
theorem c_X6_mirror_atx {X : jX} (hs : X.1.stackTraces = false) {d : Nat} (hd : 12 ≤ d) {n : Nat} {e r q : Int32} {cm : Nat → Nat} {w : List jC} (hH : HX n e r q cm w) (hn1 : 2 ≤ n) (hn2 : n ≤ 7) (hcm : ∀ c, c < 6 → Mv n (cm c)) (p0 : Int32) {kc ks : Nat} (hkc : 1 ≤ kc) (hks : 6 ≤ ks) : jMet X mX6_mirror d kc ks [.ref 0, .int p0] w (pX (pJ (fun v w' => ∃ a : Nat, p0 = nI a ∧ a < 6 ∧ v = sg n (c7 (cm a) (bW (fun p => n - 1 - p) n)) ∧ HX n (e + nI 1) r q (up cm a (c7 (cm a) (bW (fun p => n - 1 - p) n))) w' ∧ FH w w')) (fun E w' => ((E = "java/lang/IndexOutOfBoundsException" ∧ ¬ (isN p0 6))) ∧ w' = w ++ [.inr (99, [])])) := by
  refine jMet_of hs (by decide +kernel) (Nat.le_of_ble_eq_true rfl) (L := [some (.ref 0), some (.int p0), none, none]) rfl ?_
  obtain ⟨h0, h1⟩ := hH
  have hG : FH w w := FH.rf
  refine J_iload_n (pc := 0) dX6_mirror_0 rfl rfl ?_
  refine J_callS (pc := 1) (M := mX6_mirror) (as := [.int p0]) dX6_mirror_1 fw_X6_needCell fl_X6_67 fs_X6_needCell rfl (c_X6_needCell_att hs (d := d - 1) (by omega) (w := w) p0 (kc := 1) (ks := 6) (Nat.le_refl _) (Nat.le_refl _)) (by omega) (by omega) (by omega) (st := []) (Nat.le_of_ble_eq_true rfl) rfl (kr_X (kr_V fun w1 hw1 => ?_)) (kx_X fun E1 w1 hx1 => ?_)
  · obtain ⟨hq1, hp1⟩ := hw1
    obtain rfl := hq1.symm
    obtain ⟨b1, hb1, rfl⟩ := hp1
    refine J_ldc (pc := 4) (v := nI 1754760) dX6_mirror_4 (by have := fk_X6_56; exact this) ?_
    refine J_istore_n (pc := 6) dX6_mirror_6 rfl (by decide) rfl ?_
    show J X mX6_mirror d (kc - 1) (ks - 6) 7 [some (.ref 0), some (.int (nI b1)), some (.int (nI 1754760)), none] [] w _
    refine J_iconst (pc := 7) (v := nI 0) dX6_mirror_7 (by decide) ?_
    refine J_istore_n (pc := 8) dX6_mirror_8 rfl (by decide) rfl ?_
    show J X mX6_mirror d (kc - 1) (ks - 6) 9 [some (.ref 0), some (.int (nI b1)), some (.int (nI 1754760)), some (.int (nI 0))] [] w _
    have lp9_2 : ∀ (fuel : Nat) (c3 : Nat), (c3 ≤ n) → (n - c3 < fuel) → J X mX6_mirror d (kc - 1) (ks - 6) 9 [some (.ref 0), some (.int (nI b1)), some (.int (nI (bW (fun p => n - 1 - p) c3))), some (.int (nI c3))] [] w (pX (pJ (fun v w' => ∃ a : Nat, (nI b1) = nI a ∧ a < 6 ∧ v = sg n (c7 (cm a) (bW (fun p => n - 1 - p) n)) ∧ HX n (e + nI 1) r q (up cm a (c7 (cm a) (bW (fun p => n - 1 - p) n))) w' ∧ FH w w')) (fun E w' => ((E = "java/lang/IndexOutOfBoundsException" ∧ ¬ (isN (nI b1) 6))) ∧ w' = w ++ [.inr (99, [])])) := by
      intro fuellp9_2
      induction fuellp9_2 with
      | zero => intros; omega
      | succ fuellp9_2 ihlp9_2 =>
        intro c3 hv9_0 hf3
        refine J_iload_n (pc := 9) dX6_mirror_9 rfl rfl ?_
        refine J_aload_n (pc := 10) dX6_mirror_10 rfl rfl rfl ?_
        refine J_get (pc := 11) (k := 5) dX6_mirror_11 kC7 (by decide) ff_X6_41 h0 rfl ?_
        refine J_icmp_geN (pc := 14) (tgt := 37) dX6_mirror_14 (by decide) (by omega) (by omega) (fun ht4 => ?_) (fun hf5 => ?_)
        · rw [show c3 = n by omega]
          refine J_aload_n (pc := 37) dX6_mirror_37 rfl rfl rfl ?_
          refine J_iload_n (pc := 38) dX6_mirror_38 rfl rfl ?_
          refine J_aload_n (pc := 39) dX6_mirror_39 rfl rfl rfl ?_
          refine J_get (pc := 40) (k := 0) dX6_mirror_40 kC7 (by decide) ff_X6_9 h0 rfl ?_
          refine J_iload_n (pc := 43) dX6_mirror_43 rfl rfl ?_
          refine J_ialdF (pc := 44) dX6_mirror_44 h1 (by omega) (by decide) ?_
          refine J_iload_n (pc := 45) dX6_mirror_45 rfl rfl ?_
          refine J_callS0 (pc := 46) (M := mX6_mirror) (as := [.int (nI (cm b1)), .int (nI (bW (fun p => n - 1 - p) n))]) dX6_mirror_46 fw_X2_both fl_X6_93 fs_X2_both rfl (c_X2_both_atx hs (d := d - 1) (by omega) (w := w) (cm b1) (bW (fun p => n - 1 - p) n) (by exact (hcm _ (by assumption)).1) (by exact bW_lt (fun p _ => by omega) n hn2) (kc := 0) (ks := 0)) (by omega) (st := [.int (nI b1), .ref 0]) (Nat.le_of_ble_eq_true rfl) rfl (kr_P fun v6 hv6 => ?_) kx_I
          subst hv6
          refine J_callV0 (pc := 49) (M := mX6_mirror) (as := [.int (nI b1), .int (nI (c7 (cm b1) (bW (fun p => n - 1 - p) n)))]) dX6_mirror_49 fw_X6_keepForSign fl_X6_96 fm_X6_keepForSign fe_X6_keepForSign h0 (by decide) rfl rfl rfl (c_X6_keepForSign_atx hs (d := d - 1) (by omega) (n := n) (e := e) (r := r) (q := q) (cm := cm) ⟨h0, h1⟩ hn1 hn2 hcm (w := w) b1 (c7 (cm b1) (bW (fun p => n - 1 - p) n)) (by first | assumption | omega) (by exact c7_Mv hn2 (hcm _ hb1) (by rw [bW_M hn2 (Pn_rev (fun _ _ => rfl)) _ (fun _ _ => rfl) (fun p _ => by omega)]; exact mkM_Mv hn2 (Pn_rev (fun _ _ => rfl)))) (kc := 0) (ks := 0)) (by omega) (st := []) (Nat.le_of_ble_eq_true rfl) rfl (kr_I fun v7 w7 hv7 hw7 => ?_) kx_I
          obtain ⟨⟨h0_7, h1_7⟩, hGc7⟩ := hw7
          have hG7 := hG.tr hGc7
          subst hv7
          exact J_iret (pc := 52) dX6_mirror_52 rfl (⟨b1, rfl, hb1, (by rfl), ⟨h0_7, h1_7⟩, hG7⟩)
        · refine J_iload_n (pc := 17) dX6_mirror_17 rfl rfl ?_
          refine J_iload_n (pc := 18) dX6_mirror_18 rfl rfl ?_
          refine J_aload_n (pc := 19) dX6_mirror_19 rfl rfl rfl ?_
          refine J_get (pc := 20) (k := 5) dX6_mirror_20 kC7 (by decide) ff_X6_41 h0 rfl ?_
          refine J_iconst (pc := 23) (v := nI 1) dX6_mirror_23 (by decide) ?_
          refine J_isubN (pc := 24) dX6_mirror_24 (by omega) ?_
          refine J_iload_n (pc := 25) dX6_mirror_25 rfl rfl ?_
          refine J_isubN (pc := 26) dX6_mirror_26 (by omega) ?_
          refine J_callS0 (pc := 27) (M := mX6_mirror) (as := [.int (nI (bW (fun p => n - 1 - p) c3)), .int (nI c3), .int (nI ((n - 1) - c3))]) dX6_mirror_27 fw_X2_with fl_X6_89 fs_X2_with rfl (c_X2_with_atx hs (d := d - 1) (by omega) (w := w) (bW (fun p => n - 1 - p) c3) c3 ((n - 1) - c3) (by exact bW_lt (fun p _ => by omega) c3 (by omega)) (by omega) (by omega) (kc := 0) (ks := 0)) (by omega) (st := []) (Nat.le_of_ble_eq_true rfl) rfl (kr_P fun v8 hv8 => ?_) kx_I
          subst hv8
          refine J_istore_n (pc := 30) dX6_mirror_30 rfl (by decide) rfl ?_
          show J X mX6_mirror d (kc - 1) (ks - 6) 31 [some (.ref 0), some (.int (nI b1)), some (.int (nI (w8 (bW (fun p => n - 1 - p) c3) c3 ((n - 1) - c3)))), some (.int (nI c3))] [] w _
          refine J_iincN (pc := 31) (b := 1) dX6_mirror_31 rfl (by decide) (by decide) rfl ?_
          show J X mX6_mirror d (kc - 1) (ks - 6) 34 [some (.ref 0), some (.int (nI b1)), some (.int (nI (w8 (bW (fun p => n - 1 - p) c3) c3 ((n - 1) - c3)))), some (.int (nI (c3 + 1)))] [] w _
          refine J_goto (pc := 34) (tgt := 9) dX6_mirror_34 (by decide) ?_
          exact J_sub (L' := [some (.ref 0), some (.int (nI b1)), some (.int (nI (bW (fun p => n - 1 - p) (c3 + 1)))), some (.int (nI (c3 + 1)))]) ⟨rfl, ⟨rfl, ⟨(congrArg (fun z => some (Value.int (nI z))) (show w8 (bW (fun p => n - 1 - p) c3) c3 ((n - 1) - c3) = bW (fun p => n - 1 - p) (c3 + 1) by rfl)), ⟨rfl, trivial⟩⟩⟩⟩ (ihlp9_2 (c3 + 1) (by first | assumption | omega) (by omega))
    exact J_sub (L' := [some (.ref 0), some (.int (nI b1)), some (.int (nI (bW (fun p => n - 1 - p) 0))), some (.int (nI 0))]) ⟨rfl, ⟨rfl, ⟨(congrArg (fun z => some (Value.int (nI z))) (show 1754760 = bW (fun p => n - 1 - p) 0 by rfl)), ⟨rfl, trivial⟩⟩⟩⟩ (lp9_2 _ 0 (by first | assumption | omega) (Nat.lt_succ_self _))
  · exact JX_out (fun _ h => nomatch h) (by obtain ⟨h1x, h2x, h3x⟩ := hx1; exact ⟨⟨h1x, fun g => ne_isN h3x g⟩, h2x⟩)
set_option maxRecDepth 100000 in
set_option maxHeartbeats 4000000 in
theorem c_X6_turn_atx {X : jX} (hs : X.1.stackTraces = false) {d : Nat} (hd : 13 ≤ d) {n : Nat} {e r q : Int32} {cm : Nat → Nat} {w : List jC} (hH : HX n e r q cm w) (hn1 : 2 ≤ n) (hn2 : n ≤ 7) (hcm : ∀ c, c < 6 → Mv n (cm c)) (p0 : Int32) (p1 : Int32) {kc ks : Nat} (hkc : 2 ≤ kc) (hks : 12 ≤ ks) : jMet X mX6_turn d kc ks [.ref 0, .int p0, .int p1] w (pX (pJ (fun v w' => ∃ a : Nat, p0 = nI a ∧ a < 6 ∧ (-100) ≤ p1 ∧ p1 ≤ nI 100 ∧ v = sg n (c7 (cm a) (bW (fun p => (p + tT n p1) % n) n)) ∧ HX n (e + nI 1) r q (up cm a (c7 (cm a) (bW (fun p => (p + tT n p1) % n) n))) w' ∧ FH w w')) (fun E w' => ((E = "java/lang/IndexOutOfBoundsException" ∧ ¬ (isN p0 6)) ∨ (E = "java/lang/IllegalArgumentException" ∧ isN p0 6 ∧ ¬ ((-100) ≤ p1 ∧ p1 ≤ nI 100))) ∧ w' = w ++ [.inr (99, [])])) := by
  refine jMet_of hs (by decide +kernel) (Nat.le_of_ble_eq_true rfl) (L := [some (.ref 0), some (.int p0), some (.int p1), none, none]) rfl ?_
  obtain ⟨h0, h1⟩ := hH
  have hG : FH w w := FH.rf
  refine J_iload_n (pc := 0) dX6_turn_0 rfl rfl ?_
  refine J_callS (pc := 1) (M := mX6_turn) (as := [.int p0]) dX6_turn_1 fw_X6_needCell fl_X6_67 fs_X6_needCell rfl (c_X6_needCell_att hs (d := d - 1) (by omega) (w := w) p0 (kc := 1) (ks := 6) (Nat.le_refl _) (Nat.le_refl _)) (by omega) (by omega) (by omega) (st := []) (Nat.le_of_ble_eq_true rfl) rfl (kr_X (kr_V fun w1 hw1 => ?_)) (kx_X fun E1 w1 hx1 => ?_)
  · obtain ⟨hq1, hp1⟩ := hw1
    obtain rfl := hq1.symm
    obtain ⟨b1, hb1, rfl⟩ := hp1
    refine J_iload_n (pc := 4) dX6_turn_4 rfl rfl ?_
    refine J_bipush (pc := 5) (v := (-100)) dX6_turn_5 (by decide) ?_
    refine J_bipush (pc := 7) (v := nI 100) dX6_turn_7 (by decide) ?_
    refine J_callS (pc := 9) (M := mX6_turn) (as := [.int p1, .int (-100), .int (nI 100)]) dX6_turn_9 fw_X6_needBetween fl_X6_63 fs_X6_needBetween rfl (c_X6_needBetween_att hs (d := d - 1) (by omega) (w := w) p1 (-100) (nI 100) (kc := 1) (ks := 6) (Nat.le_refl _) (Nat.le_refl _)) (by omega) (by omega) (by omega) (st := []) (Nat.le_of_ble_eq_true rfl) rfl (kr_X (kr_V fun w2 hw2 => ?_)) (kx_X fun E2 w2 hx2 => ?_)
    · obtain ⟨hq2, hp2⟩ := hw2
      obtain rfl := hq2.symm
      have hrg := hp2
      refine J_ldc (pc := 12) (v := nI 1754760) dX6_turn_12 (by have := fk_X6_56; exact this) ?_
      refine J_istore_n (pc := 14) dX6_turn_14 rfl (by decide) rfl ?_
      show J X mX6_turn d (kc - 1 - 1) (ks - 6 - 6) 15 [some (.ref 0), some (.int (nI b1)), some (.int p1), some (.int (nI 1754760)), none] [] w _
      refine J_iconst (pc := 15) (v := nI 0) dX6_turn_15 (by decide) ?_
      refine J_istore (pc := 16) dX6_turn_16 (by decide) rfl ?_
      show J X mX6_turn d (kc - 1 - 1) (ks - 6 - 6) 18 [some (.ref 0), some (.int (nI b1)), some (.int p1), some (.int (nI 1754760)), some (.int (nI 0))] [] w _
      have lp18_3 : ∀ (fuel : Nat) (c4 : Nat), (c4 ≤ n) → (n - c4 < fuel) → J X mX6_turn d (kc - 1 - 1) (ks - 6 - 6) 18 [some (.ref 0), some (.int (nI b1)), some (.int p1), some (.int (nI (bW (fun p => (p + tT n p1) % n) c4))), some (.int (nI c4))] [] w (pX (pJ (fun v w' => ∃ a : Nat, (nI b1) = nI a ∧ a < 6 ∧ (-100) ≤ p1 ∧ p1 ≤ nI 100 ∧ v = sg n (c7 (cm a) (bW (fun p => (p + tT n p1) % n) n)) ∧ HX n (e + nI 1) r q (up cm a (c7 (cm a) (bW (fun p => (p + tT n p1) % n) n))) w' ∧ FH w w')) (fun E w' => ((E = "java/lang/IndexOutOfBoundsException" ∧ ¬ (isN (nI b1) 6)) ∨ (E = "java/lang/IllegalArgumentException" ∧ isN (nI b1) 6 ∧ ¬ ((-100) ≤ p1 ∧ p1 ≤ nI 100))) ∧ w' = w ++ [.inr (99, [])])) := by
        intro fuellp18_3
        induction fuellp18_3 with
        | zero => intros; omega
        | succ fuellp18_3 ihlp18_3 =>
          intro c4 hv18_0 hf4
          refine J_iload (pc := 18) dX6_turn_18 rfl ?_
          refine J_aload_n (pc := 20) dX6_turn_20 rfl rfl rfl ?_
          refine J_get (pc := 21) (k := 5) dX6_turn_21 kC7 (by decide) ff_X6_41 h0 rfl ?_
          refine J_icmp_geN (pc := 24) (tgt := 51) dX6_turn_24 (by decide) (by omega) (by omega) (fun ht5 => ?_) (fun hf6 => ?_)
          · rw [show c4 = n by omega]
            refine J_aload_n (pc := 51) dX6_turn_51 rfl rfl rfl ?_
            refine J_iload_n (pc := 52) dX6_turn_52 rfl rfl ?_
            refine J_aload_n (pc := 53) dX6_turn_53 rfl rfl rfl ?_
            refine J_get (pc := 54) (k := 0) dX6_turn_54 kC7 (by decide) ff_X6_9 h0 rfl ?_
            refine J_iload_n (pc := 57) dX6_turn_57 rfl rfl ?_
            refine J_ialdF (pc := 58) dX6_turn_58 h1 (by omega) (by decide) ?_
            refine J_iload_n (pc := 59) dX6_turn_59 rfl rfl ?_
            refine J_callS0 (pc := 60) (M := mX6_turn) (as := [.int (nI (cm b1)), .int (nI (bW (fun p => (p + tT n p1) % n) n))]) dX6_turn_60 fw_X2_both fl_X6_93 fs_X2_both rfl (c_X2_both_atx hs (d := d - 1) (by omega) (w := w) (cm b1) (bW (fun p => (p + tT n p1) % n) n) (by exact (hcm _ (by assumption)).1) (by exact bW_lt (fun p _ => by have := Nat.mod_lt (p + tT n p1) (show 0 < n by omega); omega) n hn2) (kc := 0) (ks := 0)) (by omega) (st := [.int (nI b1), .ref 0]) (Nat.le_of_ble_eq_true rfl) rfl (kr_P fun v7 hv7 => ?_) kx_I
            subst hv7
            refine J_callV0 (pc := 63) (M := mX6_turn) (as := [.int (nI b1), .int (nI (c7 (cm b1) (bW (fun p => (p + tT n p1) % n) n)))]) dX6_turn_63 fw_X6_keepForSign fl_X6_96 fm_X6_keepForSign fe_X6_keepForSign h0 (by decide) rfl rfl rfl (c_X6_keepForSign_atx hs (d := d - 1) (by omega) (n := n) (e := e) (r := r) (q := q) (cm := cm) ⟨h0, h1⟩ hn1 hn2 hcm (w := w) b1 (c7 (cm b1) (bW (fun p => (p + tT n p1) % n) n)) (by first | assumption | omega) (by exact c7_Mv hn2 (hcm _ hb1) (by rw [bW_M hn2 (Pn_rot (by omega) (fun _ _ => rfl)) _ (fun _ _ => rfl) (fun p _ => by have := Nat.mod_lt (p + tT n p1) (show 0 < n by omega); omega)]; exact mkM_Mv hn2 (Pn_rot (by omega) (fun _ _ => rfl)))) (kc := 0) (ks := 0)) (by omega) (st := []) (Nat.le_of_ble_eq_true rfl) rfl (kr_I fun v8 w8 hv8 hw8 => ?_) kx_I
            obtain ⟨⟨h0_8, h1_8⟩, hGc8⟩ := hw8
            have hG8 := hG.tr hGc8
            subst hv8
            exact J_iret (pc := 66) dX6_turn_66 rfl (⟨b1, rfl, hb1, (by exact hrg.1), (by exact hrg.2), (by rfl), ⟨h0_8, h1_8⟩, hG8⟩)
          · refine J_iload_n (pc := 27) dX6_turn_27 rfl rfl ?_
            refine J_iload (pc := 28) dX6_turn_28 rfl ?_
            refine J_iload (pc := 30) dX6_turn_30 rfl ?_
            refine J_iload_n (pc := 32) dX6_turn_32 rfl rfl ?_
            refine J_iadd (pc := 33) dX6_turn_33 ?_
            refine J_aload_n (pc := 34) dX6_turn_34 rfl rfl rfl ?_
            refine J_get (pc := 35) (k := 5) dX6_turn_35 kC7 (by decide) ff_X6_41 h0 rfl ?_
            refine J_callS0 (pc := 38) (M := mX6_turn) (as := [.int (nI c4 + p1), .int (nI n)]) dX6_turn_38 fw_X6_remainder fl_X6_103 fs_X6_remainder rfl (c_X6_remainder_atx hs (d := d - 1) (by omega) (w := w) (nI c4 + p1) n (by omega) (by omega) (kc := 0) (ks := 0)) (by omega) (st := [.int (nI c4), .int (nI (bW (fun p => (p + tT n p1) % n) c4))]) (Nat.le_of_ble_eq_true rfl) rfl (kr_P fun v9 hv9 => ?_) kx_I
            subst hv9
            rw [turn_f hn1 hn2 (by omega) hrg.1 hrg.2]
            have hm41 := Nat.mod_lt (c4 + tT n p1) (show 0 < n by omega)
            refine J_callS0 (pc := 41) (M := mX6_turn) (as := [.int (nI (bW (fun p => (p + tT n p1) % n) c4)), .int (nI c4), .int (nI ((c4 + tT n p1) % n))]) dX6_turn_41 fw_X2_with fl_X6_89 fs_X2_with rfl (c_X2_with_atx hs (d := d - 1) (by omega) (w := w) (bW (fun p => (p + tT n p1) % n) c4) c4 ((c4 + tT n p1) % n) (by exact bW_lt (fun p _ => by have := Nat.mod_lt (p + tT n p1) (show 0 < n by omega); omega) c4 (by omega)) (by omega) (by omega) (kc := 0) (ks := 0)) (by omega) (st := []) (Nat.le_of_ble_eq_true rfl) rfl (kr_P fun v10 hv10 => ?_) kx_I
            subst hv10
            refine J_istore_n (pc := 44) dX6_turn_44 rfl (by decide) rfl ?_
            show J X mX6_turn d (kc - 1 - 1) (ks - 6 - 6) 45 [some (.ref 0), some (.int (nI b1)), some (.int p1), some (.int (nI (w8 (bW (fun p => (p + tT n p1) % n) c4) c4 ((c4 + tT n p1) % n)))), some (.int (nI c4))] [] w _
            refine J_iincN (pc := 45) (b := 1) dX6_turn_45 rfl (by decide) (by decide) rfl ?_
            show J X mX6_turn d (kc - 1 - 1) (ks - 6 - 6) 48 [some (.ref 0), some (.int (nI b1)), some (.int p1), some (.int (nI (w8 (bW (fun p => (p + tT n p1) % n) c4) c4 ((c4 + tT n p1) % n)))), some (.int (nI (c4 + 1)))] [] w _
            refine J_goto (pc := 48) (tgt := 18) dX6_turn_48 (by decide) ?_
            exact J_sub (L' := [some (.ref 0), some (.int (nI b1)), some (.int p1), some (.int (nI (bW (fun p => (p + tT n p1) % n) (c4 + 1)))), some (.int (nI (c4 + 1)))]) ⟨rfl, ⟨rfl, ⟨rfl, ⟨(congrArg (fun z => some (Value.int (nI z))) (show w8 (bW (fun p => (p + tT n p1) % n) c4) c4 ((c4 + tT n p1) % n) = bW (fun p => (p + tT n p1) % n) (c4 + 1) by rfl)), ⟨rfl, trivial⟩⟩⟩⟩⟩ (ihlp18_3 (c4 + 1) (by first | assumption | omega) (by omega))
      exact J_sub (L' := [some (.ref 0), some (.int (nI b1)), some (.int p1), some (.int (nI (bW (fun p => (p + tT n p1) % n) 0))), some (.int (nI 0))]) ⟨rfl, ⟨rfl, ⟨rfl, ⟨(congrArg (fun z => some (Value.int (nI z))) (show 1754760 = bW (fun p => (p + tT n p1) % n) 0 by rfl)), ⟨rfl, trivial⟩⟩⟩⟩⟩ (lp18_3 _ 0 (by first | assumption | omega) (Nat.lt_succ_self _))
    · exact JX_out (fun _ h => nomatch h) (by obtain ⟨h1x, h2x, h3x⟩ := hx2; exact ⟨Or.inr ⟨h1x, isN_of (by assumption), h3x⟩, h2x⟩)
  · exact JX_out (fun _ h => nomatch h) (by obtain ⟨h1x, h2x, h3x⟩ := hx1; exact ⟨Or.inl ⟨h1x, fun g => ne_isN h3x g⟩, h2x⟩)
set_option maxRecDepth 100000 in
set_option maxHeartbeats 4000000 in
theorem c_X6_lay_atx {X : jX} (hs : X.1.stackTraces = false) {d : Nat} (hd : 13 ≤ d) {n : Nat} {e r q : Int32} {cm : Nat → Nat} {w : List jC} (hH : HX n e r q cm w) (hn1 : 2 ≤ n) (hn2 : n ≤ 7) (hcm : ∀ c, c < 6 → Mv n (cm c)) (p0 : Int32) (p1 : Int32) {kc ks : Nat} (hkc : 2 ≤ kc) (hks : 12 ≤ ks) : jMet X mX6_lay d kc ks [.ref 0, .int p0, .int p1] w (pX (pJ (fun v w' => ∃ a : Nat, ∃ b : Nat, p0 = nI a ∧ p1 = nI b ∧ a < 6 ∧ b < fc n ∧ v = nI (nu n (cm a)) ∧ HX n (e + nI 1) r q (up cm a (mkM n (rwF n b))) w' ∧ FH w w')) (fun E w' => ((E = "java/lang/IndexOutOfBoundsException" ∧ ¬ (isN p0 6)) ∨ (E = "java/lang/IllegalArgumentException" ∧ isN p0 6 ∧ ¬ isN p1 (fc n))) ∧ w' = w ++ [.inr (99, [])])) := by
  refine jMet_of hs (by decide +kernel) (Nat.le_of_ble_eq_true rfl) (L := [some (.ref 0), some (.int p0), some (.int p1), none]) rfl ?_
  obtain ⟨h0, h1⟩ := hH
  have hG : FH w w := FH.rf
  have hfc := fc_pos n
  have hf7 := fc_7 hn2
  refine J_iload_n (pc := 0) dX6_lay_0 rfl rfl ?_
  refine J_callS (pc := 1) (M := mX6_lay) (as := [.int p0]) dX6_lay_1 fw_X6_needCell fl_X6_67 fs_X6_needCell rfl (c_X6_needCell_att hs (d := d - 1) (by omega) (w := w) p0 (kc := 1) (ks := 6) (Nat.le_refl _) (Nat.le_refl _)) (by omega) (by omega) (by omega) (st := []) (Nat.le_of_ble_eq_true rfl) rfl (kr_X (kr_V fun w1 hw1 => ?_)) (kx_X fun E1 w1 hx1 => ?_)
  · obtain ⟨hq1, hp1⟩ := hw1
    obtain rfl := hq1.symm
    obtain ⟨b1, hb1, rfl⟩ := hp1
    refine J_iload_n (pc := 4) dX6_lay_4 rfl rfl ?_
    refine J_iconst (pc := 5) (v := nI 0) dX6_lay_5 (by decide) ?_
    refine J_aload_n (pc := 6) dX6_lay_6 rfl rfl rfl ?_
    refine J_get (pc := 7) (k := 5) dX6_lay_7 kC7 (by decide) ff_X6_41 h0 rfl ?_
    refine J_callS0 (pc := 10) (M := mX6_lay) (as := [.int (nI n)]) dX6_lay_10 fw_X2_factorial fl_X6_71 fs_X2_factorial rfl (c_X2_factorial_atx hs (d := d - 1) (by omega) (w := w) n (by omega) (kc := 0) (ks := 0)) (by omega) (st := [.int (nI 0), .int p1]) (Nat.le_of_ble_eq_true rfl) rfl (kr_P fun v2 hv2 => ?_) kx_I
    subst hv2
    refine J_iconst (pc := 13) (v := nI 1) dX6_lay_13 (by decide) ?_
    refine J_isubN (pc := 14) dX6_lay_14 (by omega) ?_
    refine J_callS (pc := 15) (M := mX6_lay) (as := [.int p1, .int (nI 0), .int (nI ((fc n) - 1))]) dX6_lay_15 fw_X6_needBetween fl_X6_63 fs_X6_needBetween rfl (c_X6_needBetween_att hs (d := d - 1) (by omega) (w := w) p1 (nI 0) (nI ((fc n) - 1)) (kc := 1) (ks := 6) (Nat.le_refl _) (Nat.le_refl _)) (by omega) (by omega) (by omega) (st := []) (Nat.le_of_ble_eq_true rfl) rfl (kr_X (kr_V fun w3 hw3 => ?_)) (kx_X fun E3 w3 hx3 => ?_)
    · obtain ⟨hq3, hp3⟩ := hw3
      obtain rfl := hq3.symm
      have hbt := hp3
      obtain ⟨b9, _, hb9z, rfl⟩ := nI_btw hbt.1 hbt.2 (by omega) (by omega)
      have hb9 : b9 < fc n := by omega
      refine J_aload_n (pc := 18) dX6_lay_18 rfl rfl rfl ?_
      refine J_get (pc := 19) (k := 0) dX6_lay_19 kC7 (by decide) ff_X6_9 h0 rfl ?_
      refine J_iload_n (pc := 22) dX6_lay_22 rfl rfl ?_
      refine J_ialdF (pc := 23) dX6_lay_23 h1 (by omega) (by decide) ?_
      refine J_aload_n (pc := 24) dX6_lay_24 rfl rfl rfl ?_
      refine J_get (pc := 25) (k := 5) dX6_lay_25 kC7 (by decide) ff_X6_41 h0 rfl ?_
      refine J_callS0 (pc := 28) (M := mX6_lay) (as := [.int (nI (cm b1)), .int (nI n)]) dX6_lay_28 fw_X2_numberOf fl_X6_75 fs_X2_numberOf rfl (c_X2_numberOf_atx hs (d := d - 1) (by omega) (w := w) (cm b1) n (by exact (hcm _ (by assumption)).1) (by exact hn2) (by exact (hcm _ (by assumption)).2.1) (kc := 0) (ks := 0)) (by omega) (st := []) (Nat.le_of_ble_eq_true rfl) rfl (kr_P fun v4 hv4 => ?_) kx_I
      subst hv4
      refine J_istore_n (pc := 31) dX6_lay_31 rfl (by decide) rfl ?_
      show J X mX6_lay d (kc - 1 - 1) (ks - 6 - 6) 32 [some (.ref 0), some (.int (nI b1)), some (.int (nI b9)), some (.int (nI (nuF (d8 (cm b1)) 0 n n)))] [] w _
      refine J_aload_n (pc := 32) dX6_lay_32 rfl rfl rfl ?_
      refine J_iload_n (pc := 33) dX6_lay_33 rfl rfl ?_
      refine J_iload_n (pc := 34) dX6_lay_34 rfl rfl ?_
      refine J_aload_n (pc := 35) dX6_lay_35 rfl rfl rfl ?_
      refine J_get (pc := 36) (k := 5) dX6_lay_36 kC7 (by decide) ff_X6_41 h0 rfl ?_
      refine J_callS0 (pc := 39) (M := mX6_lay) (as := [.int (nI b9), .int (nI n)]) dX6_lay_39 fw_X2_withNumber fl_X6_79 fs_X2_withNumber rfl (c_X2_withNumber_atx hs (d := d - 1) (by omega) (w := w) b9 n (by exact hb9) (by omega) (by omega) (kc := 0) (ks := 0)) (by omega) (st := [.int (nI b1), .ref 0]) (Nat.le_of_ble_eq_true rfl) rfl (kr_P fun v5 hv5 => ?_) kx_I
      subst hv5
      refine J_callV0 (pc := 42) (M := mX6_lay) (as := [.int (nI b1), .int (nI (mkM n (rwF n b9)))]) dX6_lay_42 fw_X6_keep fl_X6_82 fm_X6_keep fe_X6_keep h0 (by decide) rfl rfl rfl (c_X6_keep_atx hs (d := d - 1) (by omega) (n := n) (e := e) (r := r) (q := q) (cm := cm) ⟨h0, h1⟩ hn1 hn2 hcm (w := w) b1 (mkM n (rwF n b9)) (by first | assumption | omega) (kc := 0) (ks := 0)) (by omega) (st := []) (Nat.le_of_ble_eq_true rfl) rfl (kr_V fun w6 hw6 => ?_) kx_V
      obtain ⟨⟨h0_6, h1_6⟩, hGc6⟩ := hw6
      have hG6 := hG.tr hGc6
      refine J_iload_n (pc := 45) dX6_lay_45 rfl rfl ?_
      exact J_iret (pc := 46) dX6_lay_46 rfl (⟨b1, b9, rfl, rfl, hb1, hb9, (by rfl), ⟨h0_6, h1_6⟩, hG6⟩)
    · exact JX_out (fun _ h => nomatch h) (by obtain ⟨h1x, h2x, h3x⟩ := hx3; exact ⟨Or.inr ⟨h1x, isN_of (by assumption), lay_no (by omega) (by omega) h3x⟩, h2x⟩)
  · exact JX_out (fun _ h => nomatch h) (by obtain ⟨h1x, h2x, h3x⟩ := hx1; exact ⟨Or.inl ⟨h1x, fun g => ne_isN h3x g⟩, h2x⟩)
set_option maxRecDepth 100000 in
set_option maxHeartbeats 4000000 in
theorem c_X6_nth_atx {X : jX} (hs : X.1.stackTraces = false) {d : Nat} (hd : 14 ≤ d) {st sv rc sz kw : Nat → Nat} {ns tk ro nn : Nat} {n : Nat} {e r q : Int32} {cm : Nat → Nat} {w : List jC} (hH : HX n e r q cm w) (hn1 : 2 ≤ n) (hn2 : n ≤ 7) (hcm : ∀ c, c < 6 → Mv n (cm c)) (hR : CM st sv rc sz kw ns tk ro nn w) (p0 : Int32) (p1 : Int32) (p2 : Int32) (p3 : Int32) {kc ks : Nat} (hkc : 4 ≤ kc) (hks : 24 ≤ ks) : jMet X mX6_nth d kc ks [.ref 0, .int p0, .int p1, .int p2, .int p3] w (pX (pJ (fun v w' => (∃ s a b rk y : Nat, v = nI (nu n y) ∧ p0 = nI s ∧ p1 = nI a ∧ p3 = nI b ∧ p2 = nI rk ∧ s < 64 ∧ a < 6 ∧ b < 6 ∧ rk < 2 ^ 31 ∧ rk < cd n (Gg n (gS cm s 6)) ∧ Mv n y ∧ GK n (Gg n (gS cm s 6)) (d8 (cm a)) rk y ∧ HX n (e + nI 1) r q (up cm b y) w' ∧ FN w w' ∧ ∃ (st' sv' rc' sz' kw' : Nat → Nat) (ns' tk' ro' nn' : Nat), CM st' sv' rc' sz' kw' ns' tk' ro' nn' w' ∧ ns' ≤ 21 ∧ nn' ≤ 7) ∨ (∃ s a b rk : Nat, v = (-9) ∧ p0 = nI s ∧ p1 = nI a ∧ p3 = nI b ∧ p2 = nI rk ∧ s < 64 ∧ a < 6 ∧ b < 6 ∧ rk < 2 ^ 31 ∧ ¬ rk < cd n (Gg n (gS cm s 6)) ∧ HX n e (r + nI 1) q cm w' ∧ FN w w' ∧ ∃ (st' sv' rc' sz' kw' : Nat → Nat) (ns' tk' ro' nn' : Nat), CM st' sv' rc' sz' kw' ns' tk' ro' nn' w' ∧ ns' ≤ 21 ∧ nn' ≤ 7))) (fun E w' => ((E = "java/lang/IndexOutOfBoundsException" ∧ ¬ (isN p1 6 ∧ isN p3 6)) ∨ (E = "java/lang/IllegalArgumentException" ∧ (isN p1 6 ∧ isN p3 6) ∧ ¬ (isN p0 64 ∧ 0 ≤ p2))) ∧ w' = w ++ [.inr (99, [])])) := by
  refine jMet_of hs (by decide +kernel) (Nat.le_of_ble_eq_true rfl) (L := [some (.ref 0), some (.int p0), some (.int p1), some (.int p2), some (.int p3)]) rfl ?_
  obtain ⟨h0, h1⟩ := hH
  obtain ⟨h2, h3, h4, h5, h6, h7⟩ := hR
  have hG : FN w w := FN.rf
  refine J_iload_n (pc := 0) dX6_nth_0 rfl rfl ?_
  refine J_callS (pc := 1) (M := mX6_nth) (as := [.int p1]) dX6_nth_1 fw_X6_needCell fl_X6_67 fs_X6_needCell rfl (c_X6_needCell_att hs (d := d - 1) (by omega) (w := w) p1 (kc := 1) (ks := 6) (Nat.le_refl _) (Nat.le_refl _)) (by omega) (by omega) (by omega) (st := []) (Nat.le_of_ble_eq_true rfl) rfl (kr_X (kr_V fun w1 hw1 => ?_)) (kx_X fun E1 w1 hx1 => ?_)
  · obtain ⟨hq1, hp1⟩ := hw1
    obtain rfl := hq1.symm
    obtain ⟨b1, hb1, rfl⟩ := hp1
    refine J_iload (pc := 4) dX6_nth_4 rfl ?_
    refine J_callS (pc := 6) (M := mX6_nth) (as := [.int p3]) dX6_nth_6 fw_X6_needCell fl_X6_67 fs_X6_needCell rfl (c_X6_needCell_att hs (d := d - 1) (by omega) (w := w) p3 (kc := 1) (ks := 6) (Nat.le_refl _) (Nat.le_refl _)) (by omega) (by omega) (by omega) (st := []) (Nat.le_of_ble_eq_true rfl) rfl (kr_X (kr_V fun w2 hw2 => ?_)) (kx_X fun E2 w2 hx2 => ?_)
    · obtain ⟨hq2, hp2⟩ := hw2
      obtain rfl := hq2.symm
      obtain ⟨b2, hb2, rfl⟩ := hp2
      refine J_iload_n (pc := 9) dX6_nth_9 rfl rfl ?_
      refine J_callS (pc := 10) (M := mX6_nth) (as := [.int p0]) dX6_nth_10 fw_X6_needSet fl_X6_131 fs_X6_needSet rfl (c_X6_needSet_att hs (d := d - 1) (by omega) (w := w) p0 (kc := 1) (ks := 6) (Nat.le_refl _) (Nat.le_refl _)) (by omega) (by omega) (by omega) (st := []) (Nat.le_of_ble_eq_true rfl) rfl (kr_X (kr_V fun w3 hw3 => ?_)) (kx_X fun E3 w3 hx3 => ?_)
      · obtain ⟨hq3, hp3⟩ := hw3
        obtain rfl := hq3.symm
        obtain ⟨b3, hb3, rfl⟩ := hp3
        refine J_iload_n (pc := 13) dX6_nth_13 rfl rfl ?_
        refine J_if_lt (pc := 14) (tgt := 21) dX6_nth_14 (by decide) (fun ht4 => ?_) (fun hf5 => ?_)
        · refine J_iconst (pc := 21) (v := nI 0) dX6_nth_21 (by decide) ?_
          refine J_callS (pc := 22) (M := mX6_nth) (as := [.int (nI 0)]) dX6_nth_22 fw_X6_need fl_X6_99 fs_X6_need rfl (c_X6_need_att hs (d := d - 1) (by omega) (w := w) 0 (by first | assumption | omega) (kc := 1) (ks := 6) (Nat.le_refl _) (Nat.le_refl _)) (by omega) (by omega) (by omega) (st := []) (Nat.le_of_ble_eq_true rfl) rfl (kr_X (kr_V fun w6 hw6 => ?_)) (kx_X fun E6 w6 hx6 => ?_)
          · obtain ⟨hq6, hp6⟩ := hw6
            obtain rfl := hq6.symm
            exact absurd rfl hp6
          · exact JX_out (fun _ h => nomatch h) (by obtain ⟨h1x, h2x, h3x⟩ := hx6; exact ⟨Or.inr ⟨h1x, ⟨isN_of (by assumption), isN_of (by assumption)⟩, fun g => by first | exact absurd h3x (by decide) | exact absurd (by assumption : p2 < 0) (Int32.not_lt.mpr g.2)⟩, h2x⟩)
        · have hnn := Int32.not_lt.mp (show ¬ p2 < 0 by assumption)
          refine J_iconst (pc := 17) (v := nI 1) dX6_nth_17 (by decide) ?_
          refine J_goto (pc := 18) (tgt := 22) dX6_nth_18 (by decide) ?_
          refine J_callS (pc := 22) (M := mX6_nth) (as := [.int (nI 1)]) dX6_nth_22 fw_X6_need fl_X6_99 fs_X6_need rfl (c_X6_need_att hs (d := d - 1) (by omega) (w := w) 1 (by first | assumption | omega) (kc := 1) (ks := 6) (Nat.le_refl _) (Nat.le_refl _)) (by omega) (by omega) (by omega) (st := []) (Nat.le_of_ble_eq_true rfl) rfl (kr_X (kr_V fun w7 hw7 => ?_)) (kx_X fun E7 w7 hx7 => ?_)
          · obtain ⟨hq7, hp7⟩ := hw7
            obtain rfl := hq7.symm
            obtain ⟨rk, hrk, rfl⟩ := nI_nn hnn
            refine J_aload_n (pc := 25) dX6_nth_25 rfl rfl rfl ?_
            refine J_get (pc := 26) (k := 1) dX6_nth_26 kC7 (by decide) ff_X6_16 h0 rfl ?_
            refine J_aload_n (pc := 29) dX6_nth_29 rfl rfl rfl ?_
            refine J_get (pc := 30) (k := 0) dX6_nth_30 kC7 (by decide) ff_X6_9 h0 rfl ?_
            refine J_iload_n (pc := 33) dX6_nth_33 rfl rfl ?_
            refine J_aload_n (pc := 34) dX6_nth_34 rfl rfl rfl ?_
            refine J_get (pc := 35) (k := 0) dX6_nth_35 kC7 (by decide) ff_X6_9 h0 rfl ?_
            refine J_iload_n (pc := 38) dX6_nth_38 rfl rfl ?_
            refine J_ialdF (pc := 39) dX6_nth_39 h1 (by omega) (by decide) ?_
            refine J_aload_n (pc := 40) dX6_nth_40 rfl rfl rfl ?_
            refine J_get (pc := 41) (k := 5) dX6_nth_41 kC7 (by decide) ff_X6_41 h0 rfl ?_
            refine J_callV0 (pc := 44) (M := mX6_nth) (as := [.ref 1, .int (nI b3), .int (nI (cm b1)), .int (nI n)]) dX6_nth_44 fw_X0_raise fl_X6_134 fm_X0_raise fe_X0_raise h2 (by decide) rfl rfl rfl (c_X0_raise_atx hs (d := d - 1) (by omega) (st := st) (sv := sv) (rc := rc) (sz := sz) (kw := kw) (ns := ns) (tk := tk) (ro := ro) (nn := nn) ⟨h2, h3, h4, h5, h6, h7⟩ h1 (w := w) b3 (cm b1) n (by exact hn2) (by exact hcm _ (by assumption)) (by assumption) (by exact hcm) (kc := 0) (ks := 0)) (by omega) (st := []) (Nat.le_of_ble_eq_true rfl) rfl (kr_V fun w8 hw8 => ?_) kx_V
            obtain ⟨st8, sv8, rc8, sz8, kw8, ns8, tk8, hR8, hFc8, hp8_0, hp8_1, hp8_2, hp8_3⟩ := hw8
            obtain ⟨h2_8, h3_8, h4_8, h5_8, h6_8, h7_8⟩ := hR8
            have h0_8 := (hFc8.2 0 (by decide)).trans h0
            have h1_8 := (hFc8.2 1 (by decide)).trans h1
            have hG8 := hG.trC hFc8
            have hci := hp8_0
            have hpq := hp8_1
            have hge := hp8_2
            have hsz := hp8_3
            have hs0 := hsz 0 (by omega)
            rw [Nat.sub_zero] at hs0
            have hcd := nth_cd (by omega) hn2 hci hge hs0
            have h5040 := zF_5040 (by omega) hn2 hci (Nat.le_refl n)
            refine J_iload_n (pc := 47) dX6_nth_47 rfl rfl ?_
            refine J_aload_n (pc := 48) dX6_nth_48 rfl rfl rfl ?_
            refine J_get (pc := 49) (k := 1) dX6_nth_49 kC7 (by decide) ff_X6_16 h0_8 rfl ?_
            refine J_callV0 (pc := 52) (M := mX6_nth) (as := []) dX6_nth_52 fw_X0_total fl_X6_138 fm_X0_total fe_X0_total h2_8 (by decide) rfl rfl rfl (c_X0_total_atx hs (d := d - 1) (by omega) (st := st8) (sv := sv8) (rc := rc8) (sz := sz8) (kw := kw8) (ns := ns8) (tk := tk8) (ro := (cm b1)) (nn := n) ⟨h2_8, h3_8, h4_8, h5_8, h6_8, h7_8⟩ (w := w8)  (kc := 0) (ks := 0)) (by omega) (st := [.int (nI rk)]) (Nat.le_of_ble_eq_true rfl) rfl (kr_P fun v9 hv9 => ?_) kx_I
            subst hv9
            refine J_icmp_ltN (pc := 55) (tgt := 63) dX6_nth_55 (by decide) (by omega) (by omega) (fun ht10 => ?_) (fun hf11 => ?_)
            · refine J_aload_n (pc := 63) dX6_nth_63 rfl rfl rfl ?_
              refine J_iload (pc := 64) dX6_nth_64 rfl ?_
              refine J_aload_n (pc := 66) dX6_nth_66 rfl rfl rfl ?_
              refine J_get (pc := 67) (k := 1) dX6_nth_67 kC7 (by decide) ff_X6_16 h0_8 rfl ?_
              refine J_iload_n (pc := 70) dX6_nth_70 rfl rfl ?_
              refine J_ldc (pc := 71) (v := nI 1754760) dX6_nth_71 (by have := fk_X6_56; exact this) ?_
              refine J_callV0 (pc := 73) (M := mX6_nth) (as := [.int (nI rk), .int (nI 1754760)]) dX6_nth_73 fw_X0_moveAt fl_X6_141 fm_X0_moveAt fe_X0_moveAt h2_8 (by decide) rfl rfl rfl (c_X0_moveAt_atx hs (d := d - 1) (by omega) (st := st8) (sv := sv8) (rc := rc8) (sz := sz8) (kw := kw8) (ns := ns8) (tk := tk8) (ro := (cm b1)) (nn := n) ⟨h2_8, h3_8, h4_8, h5_8, h6_8, h7_8⟩ (w := w8) rk 1754760 (by omega) (by exact hn2) (by exact hci) (by exact hpq) (by exact hsz) (by rw [e7_M hn2]; exact eM_Mv hn2) (by omega) (kc := 0) (ks := 0)) (by omega) (st := [.int (nI b2), .ref 0]) (Nat.le_of_ble_eq_true rfl) rfl (kr_P fun v12 hv12 => ?_) kx_I
              obtain ⟨k12, rfl, hk12⟩ := hv12
              have hy1 := hk12.1
              have hy2 := nth_GK (by omega) hn2 hge hk12.2
              refine J_callV0 (pc := 76) (M := mX6_nth) (as := [.int (nI b2), .int (nI k12)]) dX6_nth_76 fw_X6_keepForNumber fl_X6_106 fm_X6_keepForNumber fe_X6_keepForNumber h0_8 (by decide) rfl rfl rfl (c_X6_keepForNumber_atx hs (d := d - 1) (by omega) (n := n) (e := e) (r := r) (q := q) (cm := cm) ⟨h0_8, h1_8⟩ hn1 hn2 hcm (w := w8) b2 k12 (by first | assumption | omega) (by exact hy1) (kc := 0) (ks := 0)) (by omega) (st := []) (Nat.le_of_ble_eq_true rfl) rfl (kr_I fun v13 w13 hv13 hw13 => ?_) kx_I
              obtain ⟨⟨h0_13, h1_13⟩, hGc13⟩ := hw13
              have h2_13 := (hGc13.2 2 (by decide) (gl h2_8)).trans h2_8
              have h3_13 := (hGc13.2 3 (by decide) (gl h3_8)).trans h3_8
              have h4_13 := (hGc13.2 4 (by decide) (gl h4_8)).trans h4_8
              have h5_13 := (hGc13.2 5 (by decide) (gl h5_8)).trans h5_8
              have h6_13 := (hGc13.2 6 (by decide) (gl h6_8)).trans h6_8
              have h7_13 := (hGc13.2 7 (by decide) (gl h7_8)).trans h7_8
              have hG13 := hG8.trH hGc13
              subst hv13
              exact J_iret (pc := 79) dX6_nth_79 rfl (Or.inl ⟨b3, b1, b2, rk, _, rfl, rfl, rfl, rfl, rfl, by assumption, by assumption, by assumption, hrk, (by rw [← hcd]; omega), hy1, hy2, ⟨h0_13, h1_13⟩, hG13, ⟨_, _, _, _, _, _, _, _, _, ⟨h2_13, h3_13, h4_13, h5_13, h6_13, h7_13⟩, (by first | exact CI_ns21 hn2 hci | exact CI_ns21 hn2 hci2), hn2⟩⟩)
            · refine J_aload_n (pc := 58) dX6_nth_58 rfl rfl rfl ?_
              refine J_callV0 (pc := 59) (M := mX6_nth) (as := []) dX6_nth_59 fw_X6_cannot fl_X6_124 fm_X6_cannot fe_X6_cannot h0_8 (by decide) rfl rfl rfl (c_X6_cannot_atx hs (d := d - 1) (by omega) (n := n) (e := e) (r := r) (q := q) (cm := cm) ⟨h0_8, h1_8⟩ hn1 hn2 hcm (w := w8)  (kc := 0) (ks := 0)) (by omega) (st := []) (Nat.le_of_ble_eq_true rfl) rfl (kr_I fun v14 w14 hv14 hw14 => ?_) kx_I
              obtain ⟨⟨h0_14, h1_14⟩, hGc14⟩ := hw14
              have h2_14 := (hGc14.2 2 (by decide) (gl h2_8)).trans h2_8
              have h3_14 := (hGc14.2 3 (by decide) (gl h3_8)).trans h3_8
              have h4_14 := (hGc14.2 4 (by decide) (gl h4_8)).trans h4_8
              have h5_14 := (hGc14.2 5 (by decide) (gl h5_8)).trans h5_8
              have h6_14 := (hGc14.2 6 (by decide) (gl h6_8)).trans h6_8
              have h7_14 := (hGc14.2 7 (by decide) (gl h7_8)).trans h7_8
              have hG14 := hG8.trH hGc14
              subst hv14
              exact J_iret (pc := 62) dX6_nth_62 rfl (Or.inr ⟨b3, b1, b2, rk, rfl, rfl, rfl, rfl, rfl, by assumption, by assumption, by assumption, hrk, (by rw [← hcd]; omega), ⟨h0_14, h1_14⟩, hG14, ⟨_, _, _, _, _, _, _, _, _, ⟨h2_14, h3_14, h4_14, h5_14, h6_14, h7_14⟩, (by first | exact CI_ns21 hn2 hci | exact CI_ns21 hn2 hci2), hn2⟩⟩)
          · exact JX_out (fun _ h => nomatch h) (by obtain ⟨h1x, h2x, h3x⟩ := hx7; exact ⟨Or.inr ⟨h1x, ⟨isN_of (by assumption), isN_of (by assumption)⟩, fun g => by first | exact absurd h3x (by decide) | exact absurd (by assumption : p2 < 0) (Int32.not_lt.mpr g.2)⟩, h2x⟩)
      · exact JX_out (fun _ h => nomatch h) (by obtain ⟨h1x, h2x, h3x⟩ := hx3; exact ⟨Or.inr ⟨h1x, ⟨isN_of (by assumption), isN_of (by assumption)⟩, fun g => ne_isN h3x g.1⟩, h2x⟩)
    · exact JX_out (fun _ h => nomatch h) (by obtain ⟨h1x, h2x, h3x⟩ := hx2; exact ⟨Or.inl ⟨h1x, fun g => ne_isN h3x g.2⟩, h2x⟩)
  · exact JX_out (fun _ h => nomatch h) (by obtain ⟨h1x, h2x, h3x⟩ := hx1; exact ⟨Or.inl ⟨h1x, fun g => ne_isN h3x g.1⟩, h2x⟩)
set_option maxRecDepth 100000 in
set_option maxHeartbeats 4000000 in
theorem c_X6_points_atx {X : jX} (hs : X.1.stackTraces = false) {d : Nat} (hd : 13 ≤ d) {n : Nat} {e r q : Int32} {cm : Nat → Nat} {w : List jC} (hH : HX n e r q cm w) (hn1 : 2 ≤ n) (hn2 : n ≤ 7) (hcm : ∀ c, c < 6 → Mv n (cm c)) (p0 : Int32) {kc ks : Nat} (hkc : 1 ≤ kc) (hks : 6 ≤ ks) : jMet X mX6_points d kc ks [.ref 0, .int p0] w (pX (pJ (fun v w' => ∃ k : Nat, v = nI n ∧ p0 = nI k ∧ 2 ≤ k ∧ k ≤ 7 ∧ HX k (e + nI 1) r q (fun _ => 1754760) w' ∧ FH w w')) (fun E w' => ((E = "java/lang/IllegalArgumentException" ∧ ¬ (nI 2 ≤ p0 ∧ p0 ≤ nI 7))) ∧ w' = w ++ [.inr (99, [])])) := by
  refine jMet_of hs (by decide +kernel) (Nat.le_of_ble_eq_true rfl) (L := [some (.ref 0), some (.int p0), none]) rfl ?_
  obtain ⟨h0, h1⟩ := hH
  have hG : FH w w := FH.rf
  refine J_iload_n (pc := 0) dX6_points_0 rfl rfl ?_
  refine J_iconst (pc := 1) (v := nI 2) dX6_points_1 (by decide) ?_
  refine J_bipush (pc := 2) (v := nI 7) dX6_points_2 (by decide) ?_
  refine J_callS (pc := 4) (M := mX6_points) (as := [.int p0, .int (nI 2), .int (nI 7)]) dX6_points_4 fw_X6_needBetween fl_X6_63 fs_X6_needBetween rfl (c_X6_needBetween_att hs (d := d - 1) (by omega) (w := w) p0 (nI 2) (nI 7) (kc := 1) (ks := 6) (Nat.le_refl _) (Nat.le_refl _)) (by omega) (by omega) (by omega) (st := []) (Nat.le_of_ble_eq_true rfl) rfl (kr_X (kr_V fun w1 hw1 => ?_)) (kx_X fun E1 w1 hx1 => ?_)
  · obtain ⟨hq1, hp1⟩ := hw1
    obtain rfl := hq1.symm
    have hbt := hp1
    obtain ⟨b9, hb9, hb9z, rfl⟩ := nI_btw hbt.1 hbt.2 (by omega) (by omega)
    refine J_aload_n (pc := 7) dX6_points_7 rfl rfl rfl ?_
    refine J_get (pc := 8) (k := 5) dX6_points_8 kC7 (by decide) ff_X6_41 h0 rfl ?_
    refine J_istore_n (pc := 11) dX6_points_11 rfl (by decide) rfl ?_
    show J X mX6_points d (kc - 1) (ks - 6) 12 [some (.ref 0), some (.int (nI b9)), some (.int (nI n))] [] w _
    refine J_aload_n (pc := 12) dX6_points_12 rfl rfl rfl ?_
    refine J_iload_n (pc := 13) dX6_points_13 rfl rfl ?_
    refine J_putW (pc := 14) (k := 5) dX6_points_14 kC7 (by decide) ff_X6_41 (Or.inl rfl) ⟨rfl, rfl⟩ h0 (by show 5 < 9; decide) (fun w2 hln2 hw2 hne2 => ?_)
    have h0_2 : w2[0]? = some (.inr (7, [.ref 1, .ref 2, .ref 8, .ref 12, .ref 14, .int (nI b9), .int e, .int r, .int q])) := hw2
    have h1_2 := (hne2 1 (by decide)).trans h1
    have hG2 := hG.st hln2 hne2 (by decide)
    refine J_aload_n (pc := 17) dX6_points_17 rfl rfl rfl ?_
    refine J_get (pc := 18) (k := 0) dX6_points_18 kC7 (by decide) ff_X6_9 h0_2 rfl ?_
    refine J_ldc (pc := 21) (v := nI 1754760) dX6_points_21 (by have := fk_X6_56; exact this) ?_
    refine J_callS0 (pc := 23) (M := mX6_points) (as := [.ref 1, .int (nI 1754760)]) dX6_points_23 fw_J7_fill_53178 fl_X6_57 fs_J7_fill_53178 rfl (c_J7_fill_53178_ath hs (d := d - 1) (w := w2) h1_2 1754760 (kc := 0) (ks := 0)) (by omega) (st := []) (Nat.le_of_ble_eq_true rfl) rfl (kr_V fun w3 hw3 => ?_) kx_V
    obtain ⟨hln3, hc3, hne3⟩ := hw3
    have h0_3 := (hne3 0 (by decide)).trans h0_2
    have hG3 := hG2.st hln3 hne3 (by decide)
    refine J_aload_n (pc := 26) dX6_points_26 rfl rfl rfl ?_
    refine J_dup (pc := 27) dX6_points_27 rfl ?_
    refine J_get (pc := 28) (k := 6) dX6_points_28 kC7 (by decide) ff_X6_45 h0_3 rfl ?_
    refine J_iconst (pc := 31) (v := nI 1) dX6_points_31 (by decide) ?_
    refine J_iadd (pc := 32) dX6_points_32 ?_
    refine J_putW (pc := 33) (k := 6) dX6_points_33 kC7 (by decide) ff_X6_45 (Or.inl rfl) ⟨rfl, rfl⟩ h0_3 (by show 6 < 9; decide) (fun w4 hln4 hw4 hne4 => ?_)
    have h0_4 : w4[0]? = some (.inr (7, [.ref 1, .ref 2, .ref 8, .ref 12, .ref 14, .int (nI b9), .int (e + nI 1), .int r, .int q])) := hw4
    have h1_4 := (hne4 1 (by decide)).trans hc3
    have hG4 := hG3.st hln4 hne4 (by decide)
    refine J_iload_n (pc := 36) dX6_points_36 rfl rfl ?_
    exact J_iret (pc := 37) dX6_points_37 rfl (⟨b9, rfl, rfl, hb9, hb9z, ⟨h0_4, h1_4⟩, hG4⟩)
  · exact JX_out (fun _ h => nomatch h) (by obtain ⟨h1x, h2x, h3x⟩ := hx1; exact ⟨⟨h1x, h3x⟩, h2x⟩)
set_option maxRecDepth 100000 in
set_option maxHeartbeats 4000000 in
theorem c_X6_power_atx {X : jX} (hs : X.1.stackTraces = false) {d : Nat} (hd : 13 ≤ d) {n : Nat} {e r q : Int32} {cm : Nat → Nat} {w : List jC} (hH : HX n e r q cm w) (hn1 : 2 ≤ n) (hn2 : n ≤ 7) (hcm : ∀ c, c < 6 → Mv n (cm c)) (p0 : Int32) (p1 : Int32) (p2 : Int32) {kc ks : Nat} (hkc : 3 ≤ kc) (hks : 18 ≤ ks) : jMet X mX6_power d kc ks [.ref 0, .int p0, .int p1, .int p2] w (pX (pJ (fun v w' => ∃ a : Nat, ∃ c : Nat, p0 = nI a ∧ p2 = nI c ∧ a < 6 ∧ c < 6 ∧ (-1000) ≤ p1 ∧ p1 ≤ nI 1000 ∧ v = nI (nu n (pwM p1 (cm a))) ∧ HX n (e + nI 1) r q (up cm c (pwM p1 (cm a))) w' ∧ FH w w')) (fun E w' => ((E = "java/lang/IndexOutOfBoundsException" ∧ ¬ (isN p0 6 ∧ isN p2 6)) ∨ (E = "java/lang/IllegalArgumentException" ∧ (isN p0 6 ∧ isN p2 6) ∧ ¬ ((-1000) ≤ p1 ∧ p1 ≤ nI 1000))) ∧ w' = w ++ [.inr (99, [])])) := by
  refine jMet_of hs (by decide +kernel) (Nat.le_of_ble_eq_true rfl) (L := [some (.ref 0), some (.int p0), some (.int p1), some (.int p2), none]) rfl ?_
  obtain ⟨h0, h1⟩ := hH
  have hG : FH w w := FH.rf
  refine J_iload_n (pc := 0) dX6_power_0 rfl rfl ?_
  refine J_callS (pc := 1) (M := mX6_power) (as := [.int p0]) dX6_power_1 fw_X6_needCell fl_X6_67 fs_X6_needCell rfl (c_X6_needCell_att hs (d := d - 1) (by omega) (w := w) p0 (kc := 1) (ks := 6) (Nat.le_refl _) (Nat.le_refl _)) (by omega) (by omega) (by omega) (st := []) (Nat.le_of_ble_eq_true rfl) rfl (kr_X (kr_V fun w1 hw1 => ?_)) (kx_X fun E1 w1 hx1 => ?_)
  · obtain ⟨hq1, hp1⟩ := hw1
    obtain rfl := hq1.symm
    obtain ⟨b1, hb1, rfl⟩ := hp1
    refine J_iload_n (pc := 4) dX6_power_4 rfl rfl ?_
    refine J_callS (pc := 5) (M := mX6_power) (as := [.int p2]) dX6_power_5 fw_X6_needCell fl_X6_67 fs_X6_needCell rfl (c_X6_needCell_att hs (d := d - 1) (by omega) (w := w) p2 (kc := 1) (ks := 6) (Nat.le_refl _) (Nat.le_refl _)) (by omega) (by omega) (by omega) (st := []) (Nat.le_of_ble_eq_true rfl) rfl (kr_X (kr_V fun w2 hw2 => ?_)) (kx_X fun E2 w2 hx2 => ?_)
    · obtain ⟨hq2, hp2⟩ := hw2
      obtain rfl := hq2.symm
      obtain ⟨b2, hb2, rfl⟩ := hp2
      refine J_iload_n (pc := 8) dX6_power_8 rfl rfl ?_
      refine J_sipush (pc := 9) (v := (-1000)) dX6_power_9 (by decide) ?_
      refine J_sipush (pc := 12) (v := nI 1000) dX6_power_12 (by decide) ?_
      refine J_callS (pc := 15) (M := mX6_power) (as := [.int p1, .int (-1000), .int (nI 1000)]) dX6_power_15 fw_X6_needBetween fl_X6_63 fs_X6_needBetween rfl (c_X6_needBetween_att hs (d := d - 1) (by omega) (w := w) p1 (-1000) (nI 1000) (kc := 1) (ks := 6) (Nat.le_refl _) (Nat.le_refl _)) (by omega) (by omega) (by omega) (st := []) (Nat.le_of_ble_eq_true rfl) rfl (kr_X (kr_V fun w3 hw3 => ?_)) (kx_X fun E3 w3 hx3 => ?_)
      · obtain ⟨hq3, hp3⟩ := hw3
        obtain rfl := hq3.symm
        have hrg := hp3
        refine J_iload_n (pc := 18) dX6_power_18 rfl rfl ?_
        refine J_if_ge (pc := 19) (tgt := 34) dX6_power_19 (by decide) (fun ht4 => ?_) (fun hf5 => ?_)
        · refine J_aload_n (pc := 34) dX6_power_34 rfl rfl rfl ?_
          refine J_get (pc := 35) (k := 0) dX6_power_35 kC7 (by decide) ff_X6_9 h0 rfl ?_
          refine J_iload_n (pc := 38) dX6_power_38 rfl rfl ?_
          refine J_ialdF (pc := 39) dX6_power_39 h1 (by omega) (by decide) ?_
          refine J_istore (pc := 40) dX6_power_40 (by decide) rfl ?_
          show J X mX6_power d (kc - 1 - 1 - 1) (ks - 6 - 6 - 6) 42 [some (.ref 0), some (.int (nI b1)), some (.int p1), some (.int (nI b2)), some (.int (nI (cm b1)))] [] w _
          refine J_aload_n (pc := 42) dX6_power_42 rfl rfl rfl ?_
          refine J_iload_n (pc := 43) dX6_power_43 rfl rfl ?_
          refine J_iload (pc := 44) dX6_power_44 rfl ?_
          refine J_iload_n (pc := 46) dX6_power_46 rfl rfl ?_
          refine J_callS0 (pc := 47) (M := mX6_power) (as := [.int p1]) dX6_power_47 fw_J9_abs_0f7a4 fl_X6_112 fs_J9_abs_0f7a4 rfl (c_J9_abs_0f7a4_atx hs (d := d - 1) (by omega) (w := w) p1 (kc := 0) (ks := 0)) (by omega) (st := [.int (nI (cm b1)), .int (nI b2), .ref 0]) (Nat.le_of_ble_eq_true rfl) rfl (kr_P fun v6 hv6 => ?_) kx_I
          subst hv6
          rw [abs_nI hrg.1 hrg.2]
          have ht := abs_1000 hrg.1 hrg.2
          refine J_callS0 (pc := 50) (M := mX6_power) (as := [.int (nI (cm b1)), .int (nI p1.toInt.natAbs)]) dX6_power_50 fw_X2_often fl_X6_117 fs_X2_often rfl (c_X2_often_atx hs (d := d - 1) (by omega) (w := w) (cm b1) p1.toInt.natAbs (by first | exact (hcm _ (by assumption)).1 | exact (i7_Mv hn2 (hcm _ (by assumption))).1) (by omega) (kc := 0) (ks := 0)) (by omega) (st := [.int (nI b2), .ref 0]) (Nat.le_of_ble_eq_true rfl) rfl (kr_P fun v7 hv7 => ?_) kx_I
          subst hv7
          rw [pw_pos (c := p1) (x := cm b1) (by assumption)]
          refine J_callV0 (pc := 53) (M := mX6_power) (as := [.int (nI b2), .int (nI (pwM p1 (cm b1)))]) dX6_power_53 fw_X6_keepForNumber fl_X6_106 fm_X6_keepForNumber fe_X6_keepForNumber h0 (by decide) rfl rfl rfl (c_X6_keepForNumber_atx hs (d := d - 1) (by omega) (n := n) (e := e) (r := r) (q := q) (cm := cm) ⟨h0, h1⟩ hn1 hn2 hcm (w := w) b2 (pwM p1 (cm b1)) (by first | assumption | omega) (by exact pwM_Mv hn2 (hcm _ (by assumption)) _) (kc := 0) (ks := 0)) (by omega) (st := []) (Nat.le_of_ble_eq_true rfl) rfl (kr_I fun v8 w8 hv8 hw8 => ?_) kx_I
          obtain ⟨⟨h0_8, h1_8⟩, hGc8⟩ := hw8
          have hG8 := hG.tr hGc8
          subst hv8
          exact J_iret (pc := 56) dX6_power_56 rfl (⟨b1, b2, rfl, rfl, hb1, hb2, (by exact hrg.1), (by exact hrg.2), (by rfl), ⟨h0_8, h1_8⟩, hG8⟩)
        · refine J_aload_n (pc := 22) dX6_power_22 rfl rfl rfl ?_
          refine J_get (pc := 23) (k := 0) dX6_power_23 kC7 (by decide) ff_X6_9 h0 rfl ?_
          refine J_iload_n (pc := 26) dX6_power_26 rfl rfl ?_
          refine J_ialdF (pc := 27) dX6_power_27 h1 (by omega) (by decide) ?_
          refine J_callS0 (pc := 28) (M := mX6_power) (as := [.int (nI (cm b1))]) dX6_power_28 fw_X2_undone fl_X6_109 fs_X2_undone rfl (c_X2_undone_atx hs (d := d - 1) (by omega) (w := w) (cm b1) (by exact (hcm _ (by assumption)).1) (by exact ((hcm _ (by assumption)).p7 hn2).1) (by exact ((hcm _ (by assumption)).p7 hn2).2) (kc := 0) (ks := 0)) (by omega) (st := []) (Nat.le_of_ble_eq_true rfl) rfl (kr_P fun v9 hv9 => ?_) kx_I
          subst hv9
          refine J_goto (pc := 31) (tgt := 40) dX6_power_31 (by decide) ?_
          refine J_istore (pc := 40) dX6_power_40 (by decide) rfl ?_
          show J X mX6_power d (kc - 1 - 1 - 1) (ks - 6 - 6 - 6) 42 [some (.ref 0), some (.int (nI b1)), some (.int p1), some (.int (nI b2)), some (.int (nI (i7 (cm b1))))] [] w _
          refine J_aload_n (pc := 42) dX6_power_42 rfl rfl rfl ?_
          refine J_iload_n (pc := 43) dX6_power_43 rfl rfl ?_
          refine J_iload (pc := 44) dX6_power_44 rfl ?_
          refine J_iload_n (pc := 46) dX6_power_46 rfl rfl ?_
          refine J_callS0 (pc := 47) (M := mX6_power) (as := [.int p1]) dX6_power_47 fw_J9_abs_0f7a4 fl_X6_112 fs_J9_abs_0f7a4 rfl (c_J9_abs_0f7a4_atx hs (d := d - 1) (by omega) (w := w) p1 (kc := 0) (ks := 0)) (by omega) (st := [.int (nI (i7 (cm b1))), .int (nI b2), .ref 0]) (Nat.le_of_ble_eq_true rfl) rfl (kr_P fun v10 hv10 => ?_) kx_I
          subst hv10
          rw [abs_nI hrg.1 hrg.2]
          have ht := abs_1000 hrg.1 hrg.2
          refine J_callS0 (pc := 50) (M := mX6_power) (as := [.int (nI (i7 (cm b1))), .int (nI p1.toInt.natAbs)]) dX6_power_50 fw_X2_often fl_X6_117 fs_X2_often rfl (c_X2_often_atx hs (d := d - 1) (by omega) (w := w) (i7 (cm b1)) p1.toInt.natAbs (by first | exact (hcm _ (by assumption)).1 | exact (i7_Mv hn2 (hcm _ (by assumption))).1) (by omega) (kc := 0) (ks := 0)) (by omega) (st := [.int (nI b2), .ref 0]) (Nat.le_of_ble_eq_true rfl) rfl (kr_P fun v11 hv11 => ?_) kx_I
          subst hv11
          rw [pw_neg (c := p1) (x := cm b1) (by assumption)]
          refine J_callV0 (pc := 53) (M := mX6_power) (as := [.int (nI b2), .int (nI (pwM p1 (cm b1)))]) dX6_power_53 fw_X6_keepForNumber fl_X6_106 fm_X6_keepForNumber fe_X6_keepForNumber h0 (by decide) rfl rfl rfl (c_X6_keepForNumber_atx hs (d := d - 1) (by omega) (n := n) (e := e) (r := r) (q := q) (cm := cm) ⟨h0, h1⟩ hn1 hn2 hcm (w := w) b2 (pwM p1 (cm b1)) (by first | assumption | omega) (by exact pwM_Mv hn2 (hcm _ (by assumption)) _) (kc := 0) (ks := 0)) (by omega) (st := []) (Nat.le_of_ble_eq_true rfl) rfl (kr_I fun v12 w12 hv12 hw12 => ?_) kx_I
          obtain ⟨⟨h0_12, h1_12⟩, hGc12⟩ := hw12
          have hG12 := hG.tr hGc12
          subst hv12
          exact J_iret (pc := 56) dX6_power_56 rfl (⟨b1, b2, rfl, rfl, hb1, hb2, (by exact hrg.1), (by exact hrg.2), (by rfl), ⟨h0_12, h1_12⟩, hG12⟩)
      · exact JX_out (fun _ h => nomatch h) (by obtain ⟨h1x, h2x, h3x⟩ := hx3; exact ⟨Or.inr ⟨h1x, ⟨isN_of (by assumption), isN_of (by assumption)⟩, h3x⟩, h2x⟩)
    · exact JX_out (fun _ h => nomatch h) (by obtain ⟨h1x, h2x, h3x⟩ := hx2; exact ⟨Or.inl ⟨h1x, fun g => ne_isN h3x g.2⟩, h2x⟩)
  · exact JX_out (fun _ h => nomatch h) (by obtain ⟨h1x, h2x, h3x⟩ := hx1; exact ⟨Or.inl ⟨h1x, fun g => ne_isN h3x g.1⟩, h2x⟩)
set_option maxRecDepth 100000 in
set_option maxHeartbeats 4000000 in
theorem c_X6_match_atx {X : jX} (hs : X.1.stackTraces = false) {d : Nat} (hd : 12 ≤ d) {n : Nat} {e r q : Int32} {cm : Nat → Nat} {w : List jC} (hH : HX n e r q cm w) (hn1 : 2 ≤ n) (hn2 : n ≤ 7) (hcm : ∀ c, c < 6 → Mv n (cm c)) (p0 : Int32) (p1 : Int32) (p2 : Int32) {kc ks : Nat} (hkc : 3 ≤ kc) (hks : 18 ≤ ks) : jMet X mX6_match d kc ks [.ref 0, .int p0, .int p1, .int p2] w (pX (pJ (fun v w' => (∃ a b c y : Nat, v = nI (nu n y) ∧ p0 = nI a ∧ p1 = nI b ∧ p2 = nI c ∧ a < 6 ∧ b < 6 ∧ c < 6 ∧ LN n (cm a) (cm b) y ∧ HX n (e + nI 1) r q (up cm c y) w' ∧ FH w w') ∨ (∃ a b c : Nat, v = (-9) ∧ p0 = nI a ∧ p1 = nI b ∧ p2 = nI c ∧ a < 6 ∧ b < 6 ∧ c < 6 ∧ (∀ w, ¬ RN n (cm a) (cm b) w) ∧ HX n e (r + nI 1) q cm w' ∧ FH w w'))) (fun E w' => ((E = "java/lang/IndexOutOfBoundsException" ∧ ¬ (isN p0 6 ∧ isN p1 6 ∧ isN p2 6))) ∧ w' = w ++ [.inr (99, [])])) := by
  refine jMet_of hs (by decide +kernel) (Nat.le_of_ble_eq_true rfl) (L := [some (.ref 0), some (.int p0), some (.int p1), some (.int p2)]) rfl ?_
  obtain ⟨h0, h1⟩ := hH
  have hG : FH w w := FH.rf
  refine J_iload_n (pc := 0) dX6_match_0 rfl rfl ?_
  refine J_callS (pc := 1) (M := mX6_match) (as := [.int p0]) dX6_match_1 fw_X6_needCell fl_X6_67 fs_X6_needCell rfl (c_X6_needCell_att hs (d := d - 1) (by omega) (w := w) p0 (kc := 1) (ks := 6) (Nat.le_refl _) (Nat.le_refl _)) (by omega) (by omega) (by omega) (st := []) (Nat.le_of_ble_eq_true rfl) rfl (kr_X (kr_V fun w1 hw1 => ?_)) (kx_X fun E1 w1 hx1 => ?_)
  · obtain ⟨hq1, hp1⟩ := hw1
    obtain rfl := hq1.symm
    obtain ⟨b1, hb1, rfl⟩ := hp1
    refine J_iload_n (pc := 4) dX6_match_4 rfl rfl ?_
    refine J_callS (pc := 5) (M := mX6_match) (as := [.int p1]) dX6_match_5 fw_X6_needCell fl_X6_67 fs_X6_needCell rfl (c_X6_needCell_att hs (d := d - 1) (by omega) (w := w) p1 (kc := 1) (ks := 6) (Nat.le_refl _) (Nat.le_refl _)) (by omega) (by omega) (by omega) (st := []) (Nat.le_of_ble_eq_true rfl) rfl (kr_X (kr_V fun w2 hw2 => ?_)) (kx_X fun E2 w2 hx2 => ?_)
    · obtain ⟨hq2, hp2⟩ := hw2
      obtain rfl := hq2.symm
      obtain ⟨b2, hb2, rfl⟩ := hp2
      refine J_iload_n (pc := 8) dX6_match_8 rfl rfl ?_
      refine J_callS (pc := 9) (M := mX6_match) (as := [.int p2]) dX6_match_9 fw_X6_needCell fl_X6_67 fs_X6_needCell rfl (c_X6_needCell_att hs (d := d - 1) (by omega) (w := w) p2 (kc := 1) (ks := 6) (Nat.le_refl _) (Nat.le_refl _)) (by omega) (by omega) (by omega) (st := []) (Nat.le_of_ble_eq_true rfl) rfl (kr_X (kr_V fun w3 hw3 => ?_)) (kx_X fun E3 w3 hx3 => ?_)
      · obtain ⟨hq3, hp3⟩ := hw3
        obtain rfl := hq3.symm
        obtain ⟨b3, hb3, rfl⟩ := hp3
        refine J_aload_n (pc := 12) dX6_match_12 rfl rfl rfl ?_
        refine J_get (pc := 13) (k := 0) dX6_match_13 kC7 (by decide) ff_X6_9 h0 rfl ?_
        refine J_iload_n (pc := 16) dX6_match_16 rfl rfl ?_
        refine J_ialdF (pc := 17) dX6_match_17 h1 (by omega) (by decide) ?_
        refine J_aload_n (pc := 18) dX6_match_18 rfl rfl rfl ?_
        refine J_get (pc := 19) (k := 0) dX6_match_19 kC7 (by decide) ff_X6_9 h0 rfl ?_
        refine J_iload_n (pc := 22) dX6_match_22 rfl rfl ?_
        refine J_ialdF (pc := 23) dX6_match_23 h1 (by omega) (by decide) ?_
        refine J_callS0 (pc := 24) (M := mX6_match) (as := [.int (nI (cm b1)), .int (nI (cm b2))]) dX6_match_24 fw_X2_haveLikeRings fl_X6_120 fs_X2_haveLikeRings rfl (c_X2_haveLikeRings_atx hs (d := d - 1) (by omega) (w := w) (cm b1) (cm b2) (by exact (hcm _ (by assumption)).1) (by exact (hcm _ (by assumption)).1) (by exact (hcm _ (by assumption)).P7 hn2) (by exact (hcm _ (by assumption)).P7 hn2) (kc := 0) (ks := 0)) (by omega) (st := []) (Nat.le_of_ble_eq_true rfl) rfl (kr_P fun v4 hv4 => ?_) kx_I
        rcases hv4 with ⟨rfl, hk4_0⟩ | ⟨rfl, hk4_0⟩
        · refine J_if_neN (pc := 27) (tgt := 35) dX6_match_27 (by decide) (by decide) (fun h => absurd h (by decide)) (fun _ => ?_)
          have hno := LK_no hn2 (hcm _ hb1) (hcm _ hb2) (show ¬ LK (cm b1) (cm b2) by assumption)
          refine J_aload_n (pc := 30) dX6_match_30 rfl rfl rfl ?_
          refine J_callV0 (pc := 31) (M := mX6_match) (as := []) dX6_match_31 fw_X6_cannot fl_X6_124 fm_X6_cannot fe_X6_cannot h0 (by decide) rfl rfl rfl (c_X6_cannot_atx hs (d := d - 1) (by omega) (n := n) (e := e) (r := r) (q := q) (cm := cm) ⟨h0, h1⟩ hn1 hn2 hcm (w := w)  (kc := 0) (ks := 0)) (by omega) (st := []) (Nat.le_of_ble_eq_true rfl) rfl (kr_I fun v5 w5 hv5 hw5 => ?_) kx_I
          obtain ⟨⟨h0_5, h1_5⟩, hGc5⟩ := hw5
          have hG5 := hG.tr hGc5
          subst hv5
          exact J_iret (pc := 34) dX6_match_34 rfl (Or.inr ⟨b1, b2, b3, rfl, rfl, rfl, rfl, by assumption, by assumption, by assumption, hno, ⟨h0_5, h1_5⟩, hG5⟩)
        · refine J_if_neN (pc := 27) (tgt := 35) dX6_match_27 (by decide) (by decide) (fun _ => ?_) (fun h => absurd h (by decide))
          refine J_aload_n (pc := 35) dX6_match_35 rfl rfl rfl ?_
          refine J_iload_n (pc := 36) dX6_match_36 rfl rfl ?_
          refine J_aload_n (pc := 37) dX6_match_37 rfl rfl rfl ?_
          refine J_get (pc := 38) (k := 0) dX6_match_38 kC7 (by decide) ff_X6_9 h0 rfl ?_
          refine J_iload_n (pc := 41) dX6_match_41 rfl rfl ?_
          refine J_ialdF (pc := 42) dX6_match_42 h1 (by omega) (by decide) ?_
          refine J_aload_n (pc := 43) dX6_match_43 rfl rfl rfl ?_
          refine J_get (pc := 44) (k := 0) dX6_match_44 kC7 (by decide) ff_X6_9 h0 rfl ?_
          refine J_iload_n (pc := 47) dX6_match_47 rfl rfl ?_
          refine J_ialdF (pc := 48) dX6_match_48 h1 (by omega) (by decide) ?_
          refine J_aload_n (pc := 49) dX6_match_49 rfl rfl rfl ?_
          refine J_get (pc := 50) (k := 5) dX6_match_50 kC7 (by decide) ff_X6_41 h0 rfl ?_
          refine J_callS0 (pc := 53) (M := mX6_match) (as := [.int (nI (cm b1)), .int (nI (cm b2)), .int (nI n)]) dX6_match_53 fw_X2_firstRenamer fl_X6_128 fs_X2_firstRenamer rfl (c_X2_firstRenamer_atx hs (d := d - 1) (by omega) (w := w) (cm b1) (cm b2) n (by exact hn2) (by exact hcm _ (by assumption)) (by exact hcm _ (by assumption)) (by assumption) (kc := 0) (ks := 0)) (by omega) (st := [.int (nI b3), .ref 0]) (Nat.le_of_ble_eq_true rfl) rfl (kr_P fun v6 hv6 => ?_) kx_I
          obtain ⟨k6, rfl, hk6⟩ := hv6
          have hz := hk6
          refine J_callV0 (pc := 56) (M := mX6_match) (as := [.int (nI b3), .int (nI k6)]) dX6_match_56 fw_X6_keepForNumber fl_X6_106 fm_X6_keepForNumber fe_X6_keepForNumber h0 (by decide) rfl rfl rfl (c_X6_keepForNumber_atx hs (d := d - 1) (by omega) (n := n) (e := e) (r := r) (q := q) (cm := cm) ⟨h0, h1⟩ hn1 hn2 hcm (w := w) b3 k6 (by first | assumption | omega) (by exact hz.1) (kc := 0) (ks := 0)) (by omega) (st := []) (Nat.le_of_ble_eq_true rfl) rfl (kr_I fun v7 w7 hv7 hw7 => ?_) kx_I
          obtain ⟨⟨h0_7, h1_7⟩, hGc7⟩ := hw7
          have hG7 := hG.tr hGc7
          subst hv7
          exact J_iret (pc := 59) dX6_match_59 rfl (Or.inl ⟨b1, b2, b3, _, rfl, rfl, rfl, rfl, by assumption, by assumption, by assumption, hz, ⟨h0_7, h1_7⟩, hG7⟩)
      · exact JX_out (fun _ h => nomatch h) (by obtain ⟨h1x, h2x, h3x⟩ := hx3; exact ⟨⟨h1x, fun g => ne_isN h3x g.2.2⟩, h2x⟩)
    · exact JX_out (fun _ h => nomatch h) (by obtain ⟨h1x, h2x, h3x⟩ := hx2; exact ⟨⟨h1x, fun g => ne_isN h3x g.2.1⟩, h2x⟩)
  · exact JX_out (fun _ h => nomatch h) (by obtain ⟨h1x, h2x, h3x⟩ := hx1; exact ⟨⟨h1x, fun g => ne_isN h3x g.1⟩, h2x⟩)
