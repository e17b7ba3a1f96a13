section
/-! the house's acts, exactly -/
set_option maxRecDepth 100000 in
set_option maxHeartbeats 4000000 in
theorem c_X6_number_atx {X : jX} (hs : X.1.stackTraces = false) {d : Nat} (hd : 12 ≤ d) {n : Nat} {e r q : Int32} {cm : Nat → Nat} {w : List jC} (hH : HX n e r q cm w) (hn1 : 2 ≤ n) (hn2 : n ≤ 7) (hcm : ∀ c, c < 6 → Mv n (cm c)) (p0 : Int32) {kc ks : Nat} (hkc : 1 ≤ kc) (hks : 6 ≤ ks) : jMet X mX6_number d kc ks [.ref 0, .int p0] w (pX (pJ (fun v w' => ∃ a : Nat, p0 = nI a ∧ a < 6 ∧ v = nI (nu n (cm a)) ∧ HX n e r q cm w' ∧ FH w w')) (fun E w' => ((E = "java/lang/IndexOutOfBoundsException" ∧ ¬ (isN p0 6))) ∧ w' = w ++ [.inr (99, [])])) := by
  refine jMet_of hs (by decide +kernel) (Nat.le_of_ble_eq_true rfl) (L := [some (.ref 0), some (.int p0)]) rfl ?_
  obtain ⟨h0, h1⟩ := hH
  have hG : FH w w := FH.rf
  refine J_iload_n (pc := 0) dX6_number_0 rfl rfl ?_
  refine J_callS (pc := 1) (M := mX6_number) (as := [.int p0]) dX6_number_1 fw_X6_needCell fl_X6_67 fs_X6_needCell rfl (c_X6_needCell_att hs (d := d - 1) (by omega) (w := w) p0 (kc := 1) (ks := 6) (Nat.le_refl _) (Nat.le_refl _)) (by omega) (by omega) (by omega) (st := []) (Nat.le_of_ble_eq_true rfl) rfl (kr_X (kr_V fun w1 hw1 => ?_)) (kx_X fun E1 w1 hx1 => ?_)
  · obtain ⟨hq1, hp1⟩ := hw1
    obtain rfl := hq1.symm
    obtain ⟨b1, hb1, rfl⟩ := hp1
    refine J_aload_n (pc := 4) dX6_number_4 rfl rfl rfl ?_
    refine J_get (pc := 5) (k := 0) dX6_number_5 kC7 (by decide) ff_X6_9 h0 rfl ?_
    refine J_iload_n (pc := 8) dX6_number_8 rfl rfl ?_
    refine J_ialdF (pc := 9) dX6_number_9 h1 (by omega) (by decide) ?_
    refine J_aload_n (pc := 10) dX6_number_10 rfl rfl rfl ?_
    refine J_get (pc := 11) (k := 5) dX6_number_11 kC7 (by decide) ff_X6_41 h0 rfl ?_
    refine J_callS0 (pc := 14) (M := mX6_number) (as := [.int (nI (cm b1)), .int (nI n)]) dX6_number_14 fw_X2_numberOf fl_X6_75 fs_X2_numberOf rfl (c_X2_numberOf_atx hs (d := d - 1) (by omega) (w := w) (cm b1) n (by exact (hcm _ hb1).1) (by exact hn2) (by exact (hcm _ hb1).2.1) (kc := 0) (ks := 0)) (by omega) (st := []) (Nat.le_of_ble_eq_true rfl) rfl (kr_P fun v2 hv2 => ?_) kx_I
    subst hv2
    exact J_iret (pc := 17) dX6_number_17 rfl (⟨b1, rfl, hb1, (by rfl), ⟨h0, h1⟩, hG⟩)
  · exact JX_out (fun _ h => nomatch h) (by obtain ⟨h1x, h2x, h3x⟩ := hx1; exact ⟨⟨h1x, fun g => ne_isN h3x g⟩, h2x⟩)
set_option maxRecDepth 100000 in
set_option maxHeartbeats 4000000 in
theorem c_X6_goes_atx {X : jX} (hs : X.1.stackTraces = false) {d : Nat} (hd : 12 ≤ d) {n : Nat} {e r q : Int32} {cm : Nat → Nat} {w : List jC} (hH : HX n e r q cm w) (hn1 : 2 ≤ n) (hn2 : n ≤ 7) (hcm : ∀ c, c < 6 → Mv n (cm c)) (p0 : Int32) (p1 : Int32) {kc ks : Nat} (hkc : 2 ≤ kc) (hks : 12 ≤ ks) : jMet X mX6_goes d kc ks [.ref 0, .int p0, .int p1] w (pX (pJ (fun v w' => ∃ a : Nat, ∃ b : Nat, p0 = nI a ∧ p1 = nI b ∧ a < 6 ∧ b < n ∧ v = nI (d8 (cm a) b) ∧ HX n e r q cm w' ∧ FH w w')) (fun E w' => ((E = "java/lang/IndexOutOfBoundsException" ∧ ¬ (isN p0 6 ∧ isN p1 n))) ∧ w' = w ++ [.inr (99, [])])) := by
  refine jMet_of hs (by decide +kernel) (Nat.le_of_ble_eq_true rfl) (L := [some (.ref 0), some (.int p0), some (.int p1)]) rfl ?_
  obtain ⟨h0, h1⟩ := hH
  have hG : FH w w := FH.rf
  refine J_iload_n (pc := 0) dX6_goes_0 rfl rfl ?_
  refine J_callS (pc := 1) (M := mX6_goes) (as := [.int p0]) dX6_goes_1 fw_X6_needCell fl_X6_67 fs_X6_needCell rfl (c_X6_needCell_att hs (d := d - 1) (by omega) (w := w) p0 (kc := 1) (ks := 6) (Nat.le_refl _) (Nat.le_refl _)) (by omega) (by omega) (by omega) (st := []) (Nat.le_of_ble_eq_true rfl) rfl (kr_X (kr_V fun w1 hw1 => ?_)) (kx_X fun E1 w1 hx1 => ?_)
  · obtain ⟨hq1, hp1⟩ := hw1
    obtain rfl := hq1.symm
    obtain ⟨b1, hb1, rfl⟩ := hp1
    refine J_aload_n (pc := 4) dX6_goes_4 rfl rfl rfl ?_
    refine J_iload_n (pc := 5) dX6_goes_5 rfl rfl ?_
    refine J_callV (pc := 6) (M := mX6_goes) (as := [.int p1]) dX6_goes_6 fw_X6_needPoint fl_X6_86 fm_X6_needPoint fe_X6_needPoint h0 (by decide) rfl rfl rfl (c_X6_needPoint_att hs (d := d - 1) (by omega) (n := n) (e := e) (r := r) (q := q) hn1 hn2 h0 (w := w) p1 (kc := 1) (ks := 6) (Nat.le_refl _) (Nat.le_refl _)) (by omega) (by omega) (by omega) (st := []) (Nat.le_of_ble_eq_true rfl) rfl (kr_X (kr_V fun w2 hw2 => ?_)) (kx_X fun E2 w2 hx2 => ?_)
    · obtain ⟨hq2, hp2⟩ := hw2
      obtain rfl := hq2.symm
      obtain ⟨b2, hb2, rfl⟩ := hp2
      refine J_aload_n (pc := 9) dX6_goes_9 rfl rfl rfl ?_
      refine J_get (pc := 10) (k := 0) dX6_goes_10 kC7 (by decide) ff_X6_9 h0 rfl ?_
      refine J_iload_n (pc := 13) dX6_goes_13 rfl rfl ?_
      refine J_ialdF (pc := 14) dX6_goes_14 h1 (by omega) (by decide) ?_
      refine J_iload_n (pc := 15) dX6_goes_15 rfl rfl ?_
      refine J_callS0 (pc := 16) (M := mX6_goes) (as := [.int (nI (cm b1)), .int (nI b2)]) dX6_goes_16 fw_X2_goal fl_X6_144 fs_X2_goal rfl (c_X2_goal_atx hs (d := d - 1) (by omega) (w := w) (cm b1) b2 (by exact (hcm _ hb1).1) (by omega) (kc := 0) (ks := 0)) (by omega) (st := []) (Nat.le_of_ble_eq_true rfl) rfl (kr_P fun v3 hv3 => ?_) kx_I
      subst hv3
      have hq4 := d8_lt (cm b1) b2
      exact J_iret (pc := 19) dX6_goes_19 rfl (⟨b1, b2, rfl, rfl, hb1, hb2, (by rfl), ⟨h0, h1⟩, hG⟩)
    · exact JX_out (fun _ h => nomatch h) (by obtain ⟨h1x, h2x, h3x⟩ := hx2; exact ⟨⟨h1x, fun g => ne_isN h3x g.2⟩, h2x⟩)
  · exact JX_out (fun _ h => nomatch h) (by obtain ⟨h1x, h2x, h3x⟩ := hx1; exact ⟨⟨h1x, fun g => ne_isN h3x g.1⟩, h2x⟩)
set_option maxRecDepth 100000 in
set_option maxHeartbeats 4000000 in
theorem c_X6_order_atx {X : jX} (hs : X.1.stackTraces = false) {d : Nat} (hd : 12 ≤ d) {n : Nat} {e r q : Int32} {cm : Nat → Nat} {w : List jC} (hH : HX n e r q cm w) (hn1 : 2 ≤ n) (hn2 : n ≤ 7) (hcm : ∀ c, c < 6 → Mv n (cm c)) (p0 : Int32) {kc ks : Nat} (hkc : 1 ≤ kc) (hks : 6 ≤ ks) : jMet X mX6_order d kc ks [.ref 0, .int p0] w (pX (pJ (fun v w' => ∃ a : Nat, p0 = nI a ∧ a < 6 ∧ v = nI (oC (cm a)) ∧ HX n e r q cm w' ∧ FH w w')) (fun E w' => ((E = "java/lang/IndexOutOfBoundsException" ∧ ¬ (isN p0 6))) ∧ w' = w ++ [.inr (99, [])])) := by
  refine jMet_of hs (by decide +kernel) (Nat.le_of_ble_eq_true rfl) (L := [some (.ref 0), some (.int p0)]) rfl ?_
  obtain ⟨h0, h1⟩ := hH
  have hG : FH w w := FH.rf
  refine J_iload_n (pc := 0) dX6_order_0 rfl rfl ?_
  refine J_callS (pc := 1) (M := mX6_order) (as := [.int p0]) dX6_order_1 fw_X6_needCell fl_X6_67 fs_X6_needCell rfl (c_X6_needCell_att hs (d := d - 1) (by omega) (w := w) p0 (kc := 1) (ks := 6) (Nat.le_refl _) (Nat.le_refl _)) (by omega) (by omega) (by omega) (st := []) (Nat.le_of_ble_eq_true rfl) rfl (kr_X (kr_V fun w1 hw1 => ?_)) (kx_X fun E1 w1 hx1 => ?_)
  · obtain ⟨hq1, hp1⟩ := hw1
    obtain rfl := hq1.symm
    obtain ⟨b1, hb1, rfl⟩ := hp1
    refine J_aload_n (pc := 4) dX6_order_4 rfl rfl rfl ?_
    refine J_get (pc := 5) (k := 0) dX6_order_5 kC7 (by decide) ff_X6_9 h0 rfl ?_
    refine J_iload_n (pc := 8) dX6_order_8 rfl rfl ?_
    refine J_ialdF (pc := 9) dX6_order_9 h1 (by omega) (by decide) ?_
    refine J_callS0 (pc := 10) (M := mX6_order) (as := [.int (nI (cm b1))]) dX6_order_10 fw_X2_orderOf fl_X6_164 fs_X2_orderOf rfl (c_X2_orderOf_atx hs (d := d - 1) (by omega) (w := w) (cm b1) (by exact (hcm _ hb1).1) (kc := 0) (ks := 0)) (by omega) (st := []) (Nat.le_of_ble_eq_true rfl) rfl (kr_P fun v2 hv2 => ?_) kx_I
    obtain ⟨k2, rfl, hk2⟩ := hv2
    have hoc := hk2.1
    exact J_iret (pc := 13) dX6_order_13 rfl (⟨b1, rfl, hb1, (by exact congrArg nI hoc), ⟨h0, h1⟩, hG⟩)
  · exact JX_out (fun _ h => nomatch h) (by obtain ⟨h1x, h2x, h3x⟩ := hx1; exact ⟨⟨h1x, fun g => ne_isN h3x g⟩, h2x⟩)
set_option maxRecDepth 100000 in
set_option maxHeartbeats 4000000 in
theorem c_X6_sign_atx {X : jX} (hs : X.1.stackTraces = false) {d : Nat} (hd : 12 ≤ d) {n : Nat} {e r q : Int32} {cm : Nat → Nat} {w : List jC} (hH : HX n e r q cm w) (hn1 : 2 ≤ n) (hn2 : n ≤ 7) (hcm : ∀ c, c < 6 → Mv n (cm c)) (p0 : Int32) {kc ks : Nat} (hkc : 1 ≤ kc) (hks : 6 ≤ ks) : jMet X mX6_sign d kc ks [.ref 0, .int p0] w (pX (pJ (fun v w' => ∃ a : Nat, p0 = nI a ∧ a < 6 ∧ v = sg n (cm a) ∧ HX n e r q cm w' ∧ FH w w')) (fun E w' => ((E = "java/lang/IndexOutOfBoundsException" ∧ ¬ (isN p0 6))) ∧ w' = w ++ [.inr (99, [])])) := by
  refine jMet_of hs (by decide +kernel) (Nat.le_of_ble_eq_true rfl) (L := [some (.ref 0), some (.int p0)]) rfl ?_
  obtain ⟨h0, h1⟩ := hH
  have hG : FH w w := FH.rf
  refine J_iload_n (pc := 0) dX6_sign_0 rfl rfl ?_
  refine J_callS (pc := 1) (M := mX6_sign) (as := [.int p0]) dX6_sign_1 fw_X6_needCell fl_X6_67 fs_X6_needCell rfl (c_X6_needCell_att hs (d := d - 1) (by omega) (w := w) p0 (kc := 1) (ks := 6) (Nat.le_refl _) (Nat.le_refl _)) (by omega) (by omega) (by omega) (st := []) (Nat.le_of_ble_eq_true rfl) rfl (kr_X (kr_V fun w1 hw1 => ?_)) (kx_X fun E1 w1 hx1 => ?_)
  · obtain ⟨hq1, hp1⟩ := hw1
    obtain rfl := hq1.symm
    obtain ⟨b1, hb1, rfl⟩ := hp1
    refine J_aload_n (pc := 4) dX6_sign_4 rfl rfl rfl ?_
    refine J_get (pc := 5) (k := 0) dX6_sign_5 kC7 (by decide) ff_X6_9 h0 rfl ?_
    refine J_iload_n (pc := 8) dX6_sign_8 rfl rfl ?_
    refine J_ialdF (pc := 9) dX6_sign_9 h1 (by omega) (by decide) ?_
    refine J_aload_n (pc := 10) dX6_sign_10 rfl rfl rfl ?_
    refine J_get (pc := 11) (k := 5) dX6_sign_11 kC7 (by decide) ff_X6_41 h0 rfl ?_
    refine J_callS0 (pc := 14) (M := mX6_sign) (as := [.int (nI (cm b1)), .int (nI n)]) dX6_sign_14 fw_X2_signOf fl_X6_167 fs_X2_signOf rfl (c_X2_signOf_atx hs (d := d - 1) (by omega) (w := w) (cm b1) n (by exact (hcm _ hb1).1) (by exact (hcm _ hb1).P7 hn2) (by exact hn2) (kc := 0) (ks := 0)) (by omega) (st := []) (Nat.le_of_ble_eq_true rfl) rfl (kr_P fun v2 hv2 => ?_) kx_I
    subst hv2
    exact J_iret (pc := 17) dX6_sign_17 rfl (⟨b1, rfl, hb1, (by exact sign_is hn2 (hcm _ hb1)), ⟨h0, h1⟩, hG⟩)
  · exact JX_out (fun _ h => nomatch h) (by obtain ⟨h1x, h2x, h3x⟩ := hx1; exact ⟨⟨h1x, fun g => ne_isN h3x g⟩, h2x⟩)
set_option maxRecDepth 100000 in
set_option maxHeartbeats 4000000 in
theorem c_X6_stays_atx {X : jX} (hs : X.1.stackTraces = false) {d : Nat} (hd : 12 ≤ d) {n : Nat} {e r q : Int32} {cm : Nat → Nat} {w : List jC} (hH : HX n e r q cm w) (hn1 : 2 ≤ n) (hn2 : n ≤ 7) (hcm : ∀ c, c < 6 → Mv n (cm c)) (p0 : Int32) {kc ks : Nat} (hkc : 1 ≤ kc) (hks : 6 ≤ ks) : jMet X mX6_stays d kc ks [.ref 0, .int p0] w (pX (pJ (fun v w' => ∃ a : Nat, p0 = nI a ∧ a < 6 ∧ v = nI (stF (d8 (cm a)) n) ∧ HX n e r q cm w' ∧ FH w w')) (fun E w' => ((E = "java/lang/IndexOutOfBoundsException" ∧ ¬ (isN p0 6))) ∧ w' = w ++ [.inr (99, [])])) := by
  refine jMet_of hs (by decide +kernel) (Nat.le_of_ble_eq_true rfl) (L := [some (.ref 0), some (.int p0), none, none]) rfl ?_
  obtain ⟨h0, h1⟩ := hH
  have hG : FH w w := FH.rf
  refine J_iload_n (pc := 0) dX6_stays_0 rfl rfl ?_
  refine J_callS (pc := 1) (M := mX6_stays) (as := [.int p0]) dX6_stays_1 fw_X6_needCell fl_X6_67 fs_X6_needCell rfl (c_X6_needCell_att hs (d := d - 1) (by omega) (w := w) p0 (kc := 1) (ks := 6) (Nat.le_refl _) (Nat.le_refl _)) (by omega) (by omega) (by omega) (st := []) (Nat.le_of_ble_eq_true rfl) rfl (kr_X (kr_V fun w1 hw1 => ?_)) (kx_X fun E1 w1 hx1 => ?_)
  · obtain ⟨hq1, hp1⟩ := hw1
    obtain rfl := hq1.symm
    obtain ⟨b1, hb1, rfl⟩ := hp1
    refine J_iconst (pc := 4) (v := nI 0) dX6_stays_4 (by decide) ?_
    refine J_istore_n (pc := 5) dX6_stays_5 rfl (by decide) rfl ?_
    show J X mX6_stays d (kc - 1) (ks - 6) 6 [some (.ref 0), some (.int (nI b1)), some (.int (nI 0)), none] [] w _
    refine J_iconst (pc := 6) (v := nI 0) dX6_stays_6 (by decide) ?_
    refine J_istore_n (pc := 7) dX6_stays_7 rfl (by decide) rfl ?_
    show J X mX6_stays d (kc - 1) (ks - 6) 8 [some (.ref 0), some (.int (nI b1)), some (.int (nI 0)), some (.int (nI 0))] [] w _
    have lp8_2 : ∀ (fuel : Nat) (c3 : Nat), (c3 ≤ n) → (n - c3 < fuel) → J X mX6_stays d (kc - 1) (ks - 6) 8 [some (.ref 0), some (.int (nI b1)), some (.int (nI (stF (d8 (cm b1)) c3))), some (.int (nI c3))] [] w (pX (pJ (fun v w' => ∃ a : Nat, (nI b1) = nI a ∧ a < 6 ∧ v = nI (stF (d8 (cm a)) n) ∧ HX n e r q cm w' ∧ FH w w')) (fun E w' => ((E = "java/lang/IndexOutOfBoundsException" ∧ ¬ (isN (nI b1) 6))) ∧ w' = w ++ [.inr (99, [])])) := by
      intro fuellp8_2
      induction fuellp8_2 with
      | zero => intros; omega
      | succ fuellp8_2 ihlp8_2 =>
        intro c3 hv8_0 hf3
        refine J_iload_n (pc := 8) dX6_stays_8 rfl rfl ?_
        refine J_aload_n (pc := 9) dX6_stays_9 rfl rfl rfl ?_
        refine J_get (pc := 10) (k := 5) dX6_stays_10 kC7 (by decide) ff_X6_41 h0 rfl ?_
        refine J_icmp_geN (pc := 13) (tgt := 42) dX6_stays_13 (by decide) (by omega) (by omega) (fun ht4 => ?_) (fun hf5 => ?_)
        · rw [show c3 = n by omega]
          refine J_iload_n (pc := 42) dX6_stays_42 rfl rfl ?_
          exact J_iret (pc := 43) dX6_stays_43 rfl (⟨b1, rfl, hb1, (by rfl), ⟨h0, h1⟩, hG⟩)
        · refine J_aload_n (pc := 16) dX6_stays_16 rfl rfl rfl ?_
          refine J_get (pc := 17) (k := 0) dX6_stays_17 kC7 (by decide) ff_X6_9 h0 rfl ?_
          refine J_iload_n (pc := 20) dX6_stays_20 rfl rfl ?_
          refine J_ialdF (pc := 21) dX6_stays_21 h1 (by omega) (by decide) ?_
          refine J_iload_n (pc := 22) dX6_stays_22 rfl rfl ?_
          refine J_callS0 (pc := 23) (M := mX6_stays) (as := [.int (nI (cm b1)), .int (nI c3)]) dX6_stays_23 fw_X2_goal fl_X6_144 fs_X2_goal rfl (c_X2_goal_atx hs (d := d - 1) (by omega) (w := w) (cm b1) c3 (by exact (hcm _ hb1).1) (by omega) (kc := 0) (ks := 0)) (by omega) (st := []) (Nat.le_of_ble_eq_true rfl) rfl (kr_P fun v6 hv6 => ?_) kx_I
          subst hv6
          have hq7 := d8_lt (cm b1) c3
          refine J_iload_n (pc := 26) dX6_stays_26 rfl rfl ?_
          refine J_icmp_neN (pc := 27) (tgt := 36) dX6_stays_27 (by decide) (by omega) (by omega) (fun ht8 => ?_) (fun hf9 => ?_)
          · refine J_iincN (pc := 36) (b := 1) dX6_stays_36 rfl (by decide) (by decide) rfl ?_
            show J X mX6_stays d (kc - 1) (ks - 6) 39 [some (.ref 0), some (.int (nI b1)), some (.int (nI (stF (d8 (cm b1)) c3))), some (.int (nI (c3 + 1)))] [] w _
            refine J_goto (pc := 39) (tgt := 8) dX6_stays_39 (by decide) ?_
            exact J_sub (L' := [some (.ref 0), some (.int (nI b1)), some (.int (nI (stF (d8 (cm b1)) (c3 + 1)))), some (.int (nI (c3 + 1)))]) ⟨rfl, ⟨rfl, ⟨(congrArg (fun z => some (Value.int (nI z))) (show stF (d8 (cm b1)) c3 = stF (d8 (cm b1)) (c3 + 1) by first | exact stF_t (by assumption) | exact stF_f (by assumption))), ⟨rfl, trivial⟩⟩⟩⟩ (ihlp8_2 (c3 + 1) (by first | assumption | omega) (by omega))
          · refine J_iload_n (pc := 30) dX6_stays_30 rfl rfl ?_
            refine J_iconst (pc := 31) (v := nI 1) dX6_stays_31 (by decide) ?_
            refine J_iload_n (pc := 32) dX6_stays_32 rfl rfl ?_
            refine J_shlOne (pc := 33) dX6_stays_33 (by omega) ?_
            refine J_iorN (pc := 34) dX6_stays_34 (by exact stF_31 _ (by omega)) (by exact Nat.pow_lt_pow_right (by decide) (by omega)) ?_
            refine J_istore_n (pc := 35) dX6_stays_35 rfl (by decide) rfl ?_
            show J X mX6_stays d (kc - 1) (ks - 6) 36 [some (.ref 0), some (.int (nI b1)), some (.int (nI ((stF (d8 (cm b1)) c3) ||| (2 ^ c3)))), some (.int (nI c3))] [] w _
            refine J_iincN (pc := 36) (b := 1) dX6_stays_36 rfl (by decide) (by decide) rfl ?_
            show J X mX6_stays d (kc - 1) (ks - 6) 39 [some (.ref 0), some (.int (nI b1)), some (.int (nI ((stF (d8 (cm b1)) c3) ||| (2 ^ c3)))), some (.int (nI (c3 + 1)))] [] w _
            refine J_goto (pc := 39) (tgt := 8) dX6_stays_39 (by decide) ?_
            exact J_sub (L' := [some (.ref 0), some (.int (nI b1)), some (.int (nI (stF (d8 (cm b1)) (c3 + 1)))), some (.int (nI (c3 + 1)))]) ⟨rfl, ⟨rfl, ⟨(congrArg (fun z => some (Value.int (nI z))) (show (stF (d8 (cm b1)) c3) ||| (2 ^ c3) = stF (d8 (cm b1)) (c3 + 1) by first | exact stF_t (by assumption) | exact stF_f (by assumption))), ⟨rfl, trivial⟩⟩⟩⟩ (ihlp8_2 (c3 + 1) (by first | assumption | omega) (by omega))
    exact J_sub (L' := [some (.ref 0), some (.int (nI b1)), some (.int (nI (stF (d8 (cm b1)) 0))), some (.int (nI 0))]) ⟨rfl, ⟨rfl, ⟨(congrArg (fun z => some (Value.int (nI z))) (show 0 = stF (d8 (cm b1)) 0 by rfl)), ⟨rfl, trivial⟩⟩⟩⟩ (lp8_2 _ 0 (by first | assumption | omega) (Nat.lt_succ_self _))
  · exact JX_out (fun _ h => nomatch h) (by obtain ⟨h1x, h2x, h3x⟩ := hx1; exact ⟨⟨h1x, fun g => ne_isN h3x g⟩, h2x⟩)
set_option maxRecDepth 100000 in
set_option maxHeartbeats 4000000 in
theorem c_X6_areAlike_atx {X : jX} (hs : X.1.stackTraces = false) {d : Nat} (hd : 12 ≤ d) {n : Nat} {e r q : Int32} {cm : Nat → Nat} {w : List jC} (hH : HX n e r q cm w) (hn1 : 2 ≤ n) (hn2 : n ≤ 7) (hcm : ∀ c, c < 6 → Mv n (cm c)) (p0 : Int32) (p1 : Int32) {kc ks : Nat} (hkc : 2 ≤ kc) (hks : 12 ≤ ks) : jMet X mX6_areAlike d kc ks [.ref 0, .int p0, .int p1] w (pX (pJ (fun v w' => ∃ a : Nat, ∃ b : Nat, p0 = nI a ∧ p1 = nI b ∧ a < 6 ∧ b < 6 ∧ v = nI (on (LK (cm a) (cm b))) ∧ HX n e r q cm w' ∧ FH w w')) (fun E w' => ((E = "java/lang/IndexOutOfBoundsException" ∧ ¬ (isN p0 6 ∧ isN p1 6))) ∧ w' = w ++ [.inr (99, [])])) := by
  refine jMet_of hs (by decide +kernel) (Nat.le_of_ble_eq_true rfl) (L := [some (.ref 0), some (.int p0), some (.int p1)]) rfl ?_
  obtain ⟨h0, h1⟩ := hH
  have hG : FH w w := FH.rf
  refine J_iload_n (pc := 0) dX6_areAlike_0 rfl rfl ?_
  refine J_callS (pc := 1) (M := mX6_areAlike) (as := [.int p0]) dX6_areAlike_1 fw_X6_needCell fl_X6_67 fs_X6_needCell rfl (c_X6_needCell_att hs (d := d - 1) (by omega) (w := w) p0 (kc := 1) (ks := 6) (Nat.le_refl _) (Nat.le_refl _)) (by omega) (by omega) (by omega) (st := []) (Nat.le_of_ble_eq_true rfl) rfl (kr_X (kr_V fun w1 hw1 => ?_)) (kx_X fun E1 w1 hx1 => ?_)
  · obtain ⟨hq1, hp1⟩ := hw1
    obtain rfl := hq1.symm
    obtain ⟨b1, hb1, rfl⟩ := hp1
    refine J_iload_n (pc := 4) dX6_areAlike_4 rfl rfl ?_
    refine J_callS (pc := 5) (M := mX6_areAlike) (as := [.int p1]) dX6_areAlike_5 fw_X6_needCell fl_X6_67 fs_X6_needCell rfl (c_X6_needCell_att hs (d := d - 1) (by omega) (w := w) p1 (kc := 1) (ks := 6) (Nat.le_refl _) (Nat.le_refl _)) (by omega) (by omega) (by omega) (st := []) (Nat.le_of_ble_eq_true rfl) rfl (kr_X (kr_V fun w2 hw2 => ?_)) (kx_X fun E2 w2 hx2 => ?_)
    · obtain ⟨hq2, hp2⟩ := hw2
      obtain rfl := hq2.symm
      obtain ⟨b2, hb2, rfl⟩ := hp2
      refine J_aload_n (pc := 8) dX6_areAlike_8 rfl rfl rfl ?_
      refine J_get (pc := 9) (k := 0) dX6_areAlike_9 kC7 (by decide) ff_X6_9 h0 rfl ?_
      refine J_iload_n (pc := 12) dX6_areAlike_12 rfl rfl ?_
      refine J_ialdF (pc := 13) dX6_areAlike_13 h1 (by omega) (by decide) ?_
      refine J_aload_n (pc := 14) dX6_areAlike_14 rfl rfl rfl ?_
      refine J_get (pc := 15) (k := 0) dX6_areAlike_15 kC7 (by decide) ff_X6_9 h0 rfl ?_
      refine J_iload_n (pc := 18) dX6_areAlike_18 rfl rfl ?_
      refine J_ialdF (pc := 19) dX6_areAlike_19 h1 (by omega) (by decide) ?_
      refine J_callS0 (pc := 20) (M := mX6_areAlike) (as := [.int (nI (cm b1)), .int (nI (cm b2))]) dX6_areAlike_20 fw_X2_haveLikeRings fl_X6_120 fs_X2_haveLikeRings rfl (c_X2_haveLikeRings_atx hs (d := d - 1) (by omega) (w := w) (cm b1) (cm b2) (by exact (hcm _ hb1).1) (by exact (hcm _ hb2).1) (by exact (hcm _ hb1).P7 hn2) (by exact (hcm _ hb2).P7 hn2) (kc := 0) (ks := 0)) (by omega) (st := []) (Nat.le_of_ble_eq_true rfl) rfl (kr_P fun v3 hv3 => ?_) kx_I
      rcases hv3 with ⟨rfl, hk3_0⟩ | ⟨rfl, hk3_0⟩
      · exact J_zret (pc := 23) dX6_areAlike_23 rfl (nar_b (by first | decide | omega)) (⟨b1, b2, rfl, rfl, hb1, hb2, (by first | exact congrArg nI (on_f (by assumption)).symm | exact congrArg nI (on_t (by assumption)).symm), ⟨h0, h1⟩, hG⟩)
      · exact J_zret (pc := 23) dX6_areAlike_23 rfl (nar_b (by first | decide | omega)) (⟨b1, b2, rfl, rfl, hb1, hb2, (by first | exact congrArg nI (on_f (by assumption)).symm | exact congrArg nI (on_t (by assumption)).symm), ⟨h0, h1⟩, hG⟩)
    · exact JX_out (fun _ h => nomatch h) (by obtain ⟨h1x, h2x, h3x⟩ := hx2; exact ⟨⟨h1x, fun g => ne_isN h3x g.2⟩, h2x⟩)
  · exact JX_out (fun _ h => nomatch h) (by obtain ⟨h1x, h2x, h3x⟩ := hx1; exact ⟨⟨h1x, fun g => ne_isN h3x g.1⟩, h2x⟩)
set_option maxRecDepth 100000 in
set_option maxHeartbeats 4000000 in
theorem c_X6_commute_atx {X : jX} (hs : X.1.stackTraces = false) {d : Nat} (hd : 12 ≤ d) {n : Nat} {e r q : Int32} {cm : Nat → Nat} {w : List jC} (hH : HX n e r q cm w) (hn1 : 2 ≤ n) (hn2 : n ≤ 7) (hcm : ∀ c, c < 6 → Mv n (cm c)) (p0 : Int32) (p1 : Int32) {kc ks : Nat} (hkc : 2 ≤ kc) (hks : 12 ≤ ks) : jMet X mX6_commute d kc ks [.ref 0, .int p0, .int p1] w (pX (pJ (fun v w' => ∃ a : Nat, ∃ b : Nat, p0 = nI a ∧ p1 = nI b ∧ a < 6 ∧ b < 6 ∧ v = (if c7 (cm a) (cm b) = c7 (cm b) (cm a) then nI 1 else nI 0) ∧ HX n e r q cm w' ∧ FH w w')) (fun E w' => ((E = "java/lang/IndexOutOfBoundsException" ∧ ¬ (isN p0 6 ∧ isN p1 6))) ∧ w' = w ++ [.inr (99, [])])) := by
  refine jMet_of hs (by decide +kernel) (Nat.le_of_ble_eq_true rfl) (L := [some (.ref 0), some (.int p0), some (.int p1)]) rfl ?_
  obtain ⟨h0, h1⟩ := hH
  have hG : FH w w := FH.rf
  refine J_iload_n (pc := 0) dX6_commute_0 rfl rfl ?_
  refine J_callS (pc := 1) (M := mX6_commute) (as := [.int p0]) dX6_commute_1 fw_X6_needCell fl_X6_67 fs_X6_needCell rfl (c_X6_needCell_att hs (d := d - 1) (by omega) (w := w) p0 (kc := 1) (ks := 6) (Nat.le_refl _) (Nat.le_refl _)) (by omega) (by omega) (by omega) (st := []) (Nat.le_of_ble_eq_true rfl) rfl (kr_X (kr_V fun w1 hw1 => ?_)) (kx_X fun E1 w1 hx1 => ?_)
  · obtain ⟨hq1, hp1⟩ := hw1
    obtain rfl := hq1.symm
    obtain ⟨b1, hb1, rfl⟩ := hp1
    refine J_iload_n (pc := 4) dX6_commute_4 rfl rfl ?_
    refine J_callS (pc := 5) (M := mX6_commute) (as := [.int p1]) dX6_commute_5 fw_X6_needCell fl_X6_67 fs_X6_needCell rfl (c_X6_needCell_att hs (d := d - 1) (by omega) (w := w) p1 (kc := 1) (ks := 6) (Nat.le_refl _) (Nat.le_refl _)) (by omega) (by omega) (by omega) (st := []) (Nat.le_of_ble_eq_true rfl) rfl (kr_X (kr_V fun w2 hw2 => ?_)) (kx_X fun E2 w2 hx2 => ?_)
    · obtain ⟨hq2, hp2⟩ := hw2
      obtain rfl := hq2.symm
      obtain ⟨b2, hb2, rfl⟩ := hp2
      refine J_aload_n (pc := 8) dX6_commute_8 rfl rfl rfl ?_
      refine J_get (pc := 9) (k := 0) dX6_commute_9 kC7 (by decide) ff_X6_9 h0 rfl ?_
      refine J_iload_n (pc := 12) dX6_commute_12 rfl rfl ?_
      refine J_ialdF (pc := 13) dX6_commute_13 h1 (by omega) (by decide) ?_
      refine J_aload_n (pc := 14) dX6_commute_14 rfl rfl rfl ?_
      refine J_get (pc := 15) (k := 0) dX6_commute_15 kC7 (by decide) ff_X6_9 h0 rfl ?_
      refine J_iload_n (pc := 18) dX6_commute_18 rfl rfl ?_
      refine J_ialdF (pc := 19) dX6_commute_19 h1 (by omega) (by decide) ?_
      refine J_callS0 (pc := 20) (M := mX6_commute) (as := [.int (nI (cm b1)), .int (nI (cm b2))]) dX6_commute_20 fw_X2_both fl_X6_93 fs_X2_both rfl (c_X2_both_atx hs (d := d - 1) (by omega) (w := w) (cm b1) (cm b2) (by exact (hcm _ hb1).1) (by exact (hcm _ hb2).1) (kc := 0) (ks := 0)) (by omega) (st := []) (Nat.le_of_ble_eq_true rfl) rfl (kr_P fun v3 hv3 => ?_) kx_I
      subst hv3
      refine J_aload_n (pc := 23) dX6_commute_23 rfl rfl rfl ?_
      refine J_get (pc := 24) (k := 0) dX6_commute_24 kC7 (by decide) ff_X6_9 h0 rfl ?_
      refine J_iload_n (pc := 27) dX6_commute_27 rfl rfl ?_
      refine J_ialdF (pc := 28) dX6_commute_28 h1 (by omega) (by decide) ?_
      refine J_aload_n (pc := 29) dX6_commute_29 rfl rfl rfl ?_
      refine J_get (pc := 30) (k := 0) dX6_commute_30 kC7 (by decide) ff_X6_9 h0 rfl ?_
      refine J_iload_n (pc := 33) dX6_commute_33 rfl rfl ?_
      refine J_ialdF (pc := 34) dX6_commute_34 h1 (by omega) (by decide) ?_
      refine J_callS0 (pc := 35) (M := mX6_commute) (as := [.int (nI (cm b2)), .int (nI (cm b1))]) dX6_commute_35 fw_X2_both fl_X6_93 fs_X2_both rfl (c_X2_both_atx hs (d := d - 1) (by omega) (w := w) (cm b2) (cm b1) (by exact (hcm _ hb2).1) (by exact (hcm _ hb1).1) (kc := 0) (ks := 0)) (by omega) (st := [.int (nI (c7 (cm b1) (cm b2)))]) (Nat.le_of_ble_eq_true rfl) rfl (kr_P fun v4 hv4 => ?_) kx_I
      subst hv4
      have hcl1 := lt31 (c7_lt (cm b1) (cm b2))
      have hcl2 := lt31 (c7_lt (cm b2) (cm b1))
      refine J_icmp_neN (pc := 38) (tgt := 45) dX6_commute_38 (by decide) (by omega) (by omega) (fun ht5 => ?_) (fun hf6 => ?_)
      · refine J_iconst (pc := 45) (v := nI 0) dX6_commute_45 (by decide) ?_
        exact J_zret (pc := 46) dX6_commute_46 rfl (nar_b (by first | decide | omega)) (⟨b1, b2, rfl, rfl, hb1, hb2, (by first | exact (if_pos (by assumption)).symm | exact (if_neg (by assumption)).symm), ⟨h0, h1⟩, hG⟩)
      · refine J_iconst (pc := 41) (v := nI 1) dX6_commute_41 (by decide) ?_
        refine J_goto (pc := 42) (tgt := 46) dX6_commute_42 (by decide) ?_
        exact J_zret (pc := 46) dX6_commute_46 rfl (nar_b (by first | decide | omega)) (⟨b1, b2, rfl, rfl, hb1, hb2, (by first | exact (if_pos (by assumption)).symm | exact (if_neg (by assumption)).symm), ⟨h0, h1⟩, hG⟩)
    · exact JX_out (fun _ h => nomatch h) (by obtain ⟨h1x, h2x, h3x⟩ := hx2; exact ⟨⟨h1x, fun g => ne_isN h3x g.2⟩, h2x⟩)
  · exact JX_out (fun _ h => nomatch h) (by obtain ⟨h1x, h2x, h3x⟩ := hx1; exact ⟨⟨h1x, fun g => ne_isN h3x g.1⟩, h2x⟩)
set_option maxRecDepth 100000 in
set_option maxHeartbeats 4000000 in
theorem c_X6_house_atx {X : jX} (hs : X.1.stackTraces = false) {d : Nat} (hd : 13 ≤ d) {n : Nat} {e r q : Int32} {cm : Nat → Nat} {w : List jC} (hH : HX n e r q cm w) (hn1 : 2 ≤ n) (hn2 : n ≤ 7) (hcm : ∀ c, c < 6 → Mv n (cm c)) (p0 : Int32) {kc ks : Nat} (hkc : 1 ≤ kc) (hks : 6 ≤ ks) : jMet X mX6_house d kc ks [.ref 0, .int p0] w (pX (pJ (fun v w' => ∃ a : Nat, p0 = nI a ∧ a < 3 ∧ v = (if a = 0 then e else if a = 1 then r else q) ∧ HX n e r q cm w' ∧ FH w w')) (fun E w' => ((E = "java/lang/IllegalArgumentException" ∧ ¬ (isN p0 3))) ∧ w' = w ++ [.inr (99, [])])) := by
  refine jMet_of hs (by decide +kernel) (Nat.le_of_ble_eq_true rfl) (L := [some (.ref 0), some (.int p0)]) rfl ?_
  obtain ⟨h0, h1⟩ := hH
  have hG : FH w w := FH.rf
  refine J_iload_n (pc := 0) dX6_house_0 rfl rfl ?_
  refine J_iconst (pc := 1) (v := nI 0) dX6_house_1 (by decide) ?_
  refine J_iconst (pc := 2) (v := nI 2) dX6_house_2 (by decide) ?_
  refine J_callS (pc := 3) (M := mX6_house) (as := [.int p0, .int (nI 0), .int (nI 2)]) dX6_house_3 fw_X6_needBetween fl_X6_63 fs_X6_needBetween rfl (c_X6_needBetween_att hs (d := d - 1) (by omega) (w := w) p0 (nI 0) (nI 2) (kc := 1) (ks := 6) (Nat.le_refl _) (Nat.le_refl _)) (by omega) (by omega) (by omega) (st := []) (Nat.le_of_ble_eq_true rfl) rfl (kr_X (kr_V fun w1 hw1 => ?_)) (kx_X fun E1 w1 hx1 => ?_)
  · obtain ⟨hq1, hp1⟩ := hw1
    obtain rfl := hq1.symm
    have hbt := hp1
    obtain ⟨b9, hb9, hb9z, rfl⟩ := nI_btw hbt.1 hbt.2 (by omega) (by omega)
    refine J_iload_n (pc := 6) dX6_house_6 rfl rfl ?_
    refine J_if_neN (pc := 7) (tgt := 15) dX6_house_7 (by decide) (by omega) (fun ht2 => ?_) (fun hf3 => ?_)
    · refine J_iload_n (pc := 15) dX6_house_15 rfl rfl ?_
      refine J_iconst (pc := 16) (v := nI 1) dX6_house_16 (by decide) ?_
      refine J_icmp_neN (pc := 17) (tgt := 27) dX6_house_17 (by decide) (by omega) (by omega) (fun ht4 => ?_) (fun hf5 => ?_)
      · refine J_aload_n (pc := 27) dX6_house_27 rfl rfl rfl ?_
        refine J_get (pc := 28) (k := 8) dX6_house_28 kC7 (by decide) ff_X6_51 h0 rfl ?_
        exact J_iret (pc := 31) dX6_house_31 rfl (⟨b9, rfl, (show b9 < 3 by omega), (by first | exact (if_pos (by omega)).symm | exact ((if_neg (by omega)).trans (if_pos (by omega))).symm | exact ((if_neg (by omega)).trans (if_neg (by omega))).symm), ⟨h0, h1⟩, hG⟩)
      · refine J_aload_n (pc := 20) dX6_house_20 rfl rfl rfl ?_
        refine J_get (pc := 21) (k := 7) dX6_house_21 kC7 (by decide) ff_X6_48 h0 rfl ?_
        refine J_goto (pc := 24) (tgt := 31) dX6_house_24 (by decide) ?_
        exact J_iret (pc := 31) dX6_house_31 rfl (⟨b9, rfl, (show b9 < 3 by omega), (by first | exact (if_pos (by omega)).symm | exact ((if_neg (by omega)).trans (if_pos (by omega))).symm | exact ((if_neg (by omega)).trans (if_neg (by omega))).symm), ⟨h0, h1⟩, hG⟩)
    · refine J_aload_n (pc := 10) dX6_house_10 rfl rfl rfl ?_
      refine J_get (pc := 11) (k := 6) dX6_house_11 kC7 (by decide) ff_X6_45 h0 rfl ?_
      exact J_iret (pc := 14) dX6_house_14 rfl (⟨b9, rfl, (show b9 < 3 by omega), (by first | exact (if_pos (by omega)).symm | exact ((if_neg (by omega)).trans (if_pos (by omega))).symm | exact ((if_neg (by omega)).trans (if_neg (by omega))).symm), ⟨h0, h1⟩, hG⟩)
  · exact JX_out (fun _ h => nomatch h) (by obtain ⟨h1x, h2x, h3x⟩ := hx1; exact ⟨⟨h1x, lay_no (by decide) (by decide) h3x⟩, h2x⟩)
end
section
/-! private methods of a super class; texts under way -/
theorem jsel_private {C : String} {x0 y0 y : MethodName} {s : State} {args : Array Value} (hy : y.cls ≠ "java/lang/invoke/MethodHandle" ∧ y.cls ≠ "java/lang/invoke/VarHandle") (h0 : (Cond.selects C x0 y0).before args s = true) (e : y0.cls = y.cls)
    (hpriv : (Cond.privateMethod y).before args s = true) (hinst : (Cond.instanceMethod y).before args s = true) : (Cond.selects C y y).before args s = true := by
  obtain ⟨c, r, m0, q1, q2, q3, q4, mk0, q5, q6⟩ := Cond.selects_spec h0
  obtain ⟨mk, methM, hnamed, hmethM, -, -⟩ := Cond.instanceMethod_spec hinst
  have hfound : s.methodFound? y.cls y.name y.desc = some mk := State.methodFound?_of_named hnamed hy
  have hcls : mk.cls = m0.cls := Option.some.inj ((findClass_of_methodNamed hnamed).symm.trans (by rw [← e]; exact findClass_of_methodNamed q3))
  have hsel : selectMethod {} s.vm c mk = .method mk := selectMethod_private hmethM (Cond.privateMethod_at hpriv mk methM hnamed hmethM)
  simp only [Cond.before, Cond.holds, Cond.value, q1, hfound, hnamed, hsel, hcls, q5]
  simp
  exact q6
theorem fp_J5_ensure : Cond.privateMethod yJ5_ensureCapacityInternal_d00df ∈ jK := jK_of 610 (by decide +kernel) rfl
theorem fp_J5_newCap : Cond.privateMethod yJ5_newCapacity_0f7a4 ∈ jK := jK_of 614 (by decide +kernel) rfl
theorem fp_J5_putStringAt : Cond.privateMethod yJ5_putStringAt_47b60 ∈ jK := jK_of 795 (by decide +kernel) rfl
theorem fp_J5_inflateIf : Cond.privateMethod yJ5_inflateIfNeededFor_a7421 ∈ jK := jK_of 799 (by decide +kernel) rfl
section JSB0
variable {X : jX} {M : jM} {d kc ks pc : Nat} {L : List (Option Value)} {st : List Value} {w : List jC} {Q : jQ}
theorem J_callP {index d' kc' ks' n a ci : Nat} {x0 y0 : MethodName} {z : jM} {as fs : List Value} {q : vw_C} {Q' : jQ} (hdg : decode M.2.1 pc = .ok (.invokevirtual index, 3)) (hz : jCal z n) (hl : Cond.methodLink M.1.cls index z.1 ∈ jK) (hsm : Cond.sameMethod z.1.cls z.1.cls z.1.name z.1.desc ∈ jK) (hin : Cond.instanceMethod z.1 ∈ jK) (hpr : Cond.privateMethod z.1 ∈ jK) (hse : Cond.selects q.1 x0 y0 ∈ jK) (hy0 : y0.cls = z.1.cls) (hw : w[a]? = some (.inr (ci, fs))) (hci : ci < 99) (hc : vwCl[ci]? = some q) (hn : as.length = n) (hM : jMet X z d' kc' ks' (.ref a :: as) w Q') (hd : d' + 1 ≤ d) (hkc : kc' ≤ kc) (hks : ks' ≤ ks) (h8 : (st.map fun v => v.category).sum ≤ 8)
    {st0 : List Value} (h0 : st0 = as.reverse ++ .ref a :: st)
    (kr : ∀ (r : Option Value) (w' : List jC), Q' (.inl r) w' → J X M d (kc - kc') (ks - ks') (pc + 3) L (r.toList ++ st) w' Q) (kx : ∀ (E : String) (w' : List jC), Q' (.inr E) w' → JX X M d (kc - kc') (ks - ks') pc L st w' E Q) : J X M d kc ks pc L st0 w Q := by
  subst h0
  intro p e R s m args below meth c C H locs cells slots ls hH hS hL h1 h2
  have hA := jCtx_amb C
  obtain ⟨b1, b2, b3, b4, b5, b6, b7, b8, b9⟩ := jCal_back (args := args) (kc' := kc') (ks' := ks') C hz hd
  have hrc := j_recv C hH hw hci hc
  have hsel := jsel_private (C := q.1) (y := z.1) hz.2.2.2.2.1 (hA.word hse args) hy0 (hA.word hpr args) (hA.word hin args)
  refine j_core C hS hL h1 h2 hkc hks (vx_runU (x := z.1) (C := q.1) (owner := z.1.cls) (b := X.2.1 + a) (As := as.map (jT X)) (n := n) (j_fix C) hM ⟨⟨b1, b2, b3, b4, b5, b6⟩, b7, b8, hz.2.2.2.2.1, b9, hA.word hl args, hA.word hsm args, va_Decl.of (hA.word hin args) b7, hsel, hA.word hin args⟩ ⟨jBlind X (.ref a :: as) w, hrc, jPre C hH hS (.ref a :: as)⟩ rfl (by rw [List.length_map]; exact hn) hL.1 (by show (as.reverse ++ .ref a :: st).map (jT X) = _; rw [List.map_append, List.map_reverse]; rfl) (j_sum8 h8 X) hdg ⟨by omega, by omega⟩) kr kx
/-- a method that the receiver's class overrides: linked as z0, selected z -/
theorem J_callOv {index d' kc' ks' n n0 a ci : Nat} {z0 z : jM} {as fs : List Value} {q : vw_C} {Q' : jQ} (hdg : decode M.2.1 pc = .ok (.invokevirtual index, 3)) (hz : jCal z n) (hz0 : jCal z0 n0) (hl : Cond.methodLink M.1.cls index z0.1 ∈ jK) (hsm : Cond.sameMethod z0.1.cls z0.1.cls z0.1.name z0.1.desc ∈ jK) (hin0 : Cond.instanceMethod z0.1 ∈ jK) (hin : Cond.instanceMethod z.1 ∈ jK) (hse : Cond.selects q.1 z0.1 z.1 ∈ jK) (hde : z0.1.desc = z.1.desc) (hw : w[a]? = some (.inr (ci, fs))) (hci : ci < 99) (hc : vwCl[ci]? = some q) (hn : as.length = n) (hM : jMet X z d' kc' ks' (.ref a :: as) w Q') (hd : d' + 1 ≤ d) (hkc : kc' ≤ kc) (hks : ks' ≤ ks) (h8 : (st.map fun v => v.category).sum ≤ 8)
    {st0 : List Value} (h0 : st0 = as.reverse ++ .ref a :: st)
    (kr : ∀ (r : Option Value) (w' : List jC), Q' (.inl r) w' → J X M d (kc - kc') (ks - ks') (pc + 3) L (r.toList ++ st) w' Q) (kx : ∀ (E : String) (w' : List jC), Q' (.inr E) w' → JX X M d (kc - kc') (ks - ks') pc L st w' E Q) : J X M d kc ks pc L st0 w Q := by
  subst h0
  intro p e R s m args below meth c C H locs cells slots ls hH hS hL h1 h2
  have hA := jCtx_amb C
  obtain ⟨b1, b2, b3, b4, b5, b6, b7, b8, b9⟩ := jCal_back (args := args) (kc' := kc') (ks' := ks') C hz hd
  have hrc := j_recv C hH hw hci hc
  have hcode := hA.word hz0.2.1 args
  rw [jCal_word hz0] at hcode
  refine j_core C hS hL h1 h2 hkc hks (vx_runU (x := z0.1) (C := q.1) (owner := z0.1.cls) (b := X.2.1 + a) (As := as.map (jT X)) (n := n) (j_fix C) hM ⟨⟨b1, b2, b3, b4, b5, b6⟩, b7, b8, hz0.2.2.2.2.1, fun sig hs => b9 sig (by rw [← hde]; exact hs), hA.word hl args, hA.word hsm args, va_Decl.of (hA.word hin0 args) hcode, hA.word hse args, hA.word hin args⟩ ⟨jBlind X (.ref a :: as) w, hrc, jPre C hH hS (.ref a :: as)⟩ rfl (by rw [List.length_map]; exact hn) hL.1 (by show (as.reverse ++ .ref a :: st).map (jT X) = _; rw [List.map_append, List.map_reverse]; rfl) (j_sum8 h8 X) hdg ⟨by omega, by omega⟩) kr kx
end JSB0
abbrev SBp (a v : Nat) (ml : Int32) (c : Nat) (bs : List Int32) (w : List jC) : Prop := w[a]? = some (.inr (1, [.ref v, .int 0, .int ml, .int (nI c)])) ∧ w[v]? = some (.inl (1, bs)) ∧ jFitB bs ∧ c ≤ bs.length ∧ 16 ≤ bs.length ∧ bs.length ≤ 270
/-- only a, v and what is new change -/
def FS (a v : Nat) (w w' : List jC) : Prop := w.length ≤ w'.length ∧ ∀ i, i ≠ a → i ≠ v → i < w.length → w'[i]? = w[i]?
theorem FS.rf {a v : Nat} {w : List jC} : FS a v w w := ⟨Nat.le_refl _, fun _ _ _ _ => rfl⟩
theorem FS.tr {a v v' : Nat} {w w' w'' : List jC} (h : FS a v w w') (h' : FS a v' w' w'') (hv : v' = v ∨ w.length ≤ v') : FS a v w w'' := by
  refine ⟨Nat.le_trans h.1 h'.1, fun i h1 h2 h3 => ?_⟩
  have : i ≠ v' := by omega
  exact (h'.2 i h1 this (Nat.lt_of_lt_of_le h3 h.1)).trans (h.2 i h1 h2 h3)
theorem FS.st {a v q : Nat} {w w' w'' : List jC} (h : FS a v w w') (hl : w''.length = w'.length) (hn : ∀ c, c ≠ q → w''[c]? = w'[c]?) (hq : q = a ∨ q = v ∨ w.length ≤ q) : FS a v w w'' :=
  ⟨by rw [hl]; exact h.1, fun i h1 h2 h3 => (hn i (by omega)).trans (h.2 i h1 h2 h3)⟩
theorem FS.pu {a v q : Nat} {w w' w'' : List jC} (h : FS a v w w') (hq : q = w'.length) (hl : w''.length = q + 1) (hn : ∀ c, c < q → w''[c]? = w'[c]?) : FS a v w w'' :=
  ⟨by have := h.1; omega, fun i h1 h2 h3 => (hn i (by have := h.1; omega)).trans (h.2 i h1 h2 h3)⟩
theorem FS.tr2 {a v p : Nat} {w w' w'' : List jC} (h : FS a v w w') (h' : FS p p w' w'') (hp : p = a ∨ p = v ∨ w.length ≤ p) : FS a v w w'' :=
  ⟨Nat.le_trans h.1 h'.1, fun i h1 h2 h3 => (h'.2 i (by omega) (by omega) (Nat.lt_of_lt_of_le h3 h.1)).trans (h.2 i h1 h2 h3)⟩
end
section
/-! rules for texts under way: bytes, copies, clones -/
theorem jFitB_rep (n : Nat) : jFitB (List.replicate n 0) := by
  intro x hx
  rw [(List.mem_replicate.mp hx).2]
  decide
theorem jFitB_set {xs : List Int32} (h : jFitB xs) (i : Nat) (x : Int32) : jFitB (xs.set i x.toInt8.toInt32) := by
  intro y hy
  rcases List.mem_or_eq_of_mem_set hy with e | e
  · exact h y e
  · rw [e]
    exact pk_fb x
/-- the digit rows and the four texts that are read -/
def XO (X : jX) : Prop := (∃ ys : List Int32, X.2.2.2.2.2[1]? = some (.inl (1, ys)) ∧ ys.length = 100) ∧ (∃ ys : List Int32, X.2.2.2.2.2[2]? = some (.inl (1, ys)) ∧ ys.length = 100) ∧
  (∃ (ys : List Int32) (t : Nat) (z : List Value), X.2.2.2.2.2[5]? = some (.inr (0, .retAddr t :: z)) ∧ X.2.2.2.2.2[t]? = some (.inl (1, ys)) ∧ ys.length = 0 ∧ jFitB ys) ∧
  (∃ (ys : List Int32) (t : Nat) (z : List Value), X.2.2.2.2.2[6]? = some (.inr (0, .retAddr t :: z)) ∧ X.2.2.2.2.2[t]? = some (.inl (1, ys)) ∧ ys.length = 1 ∧ jFitB ys)
section JSB1
variable {X : jX} {M : jM} {d kc ks pc : Nat} {L : List (Option Value)} {st : List Value} {w : List jC} {Q : jQ}
theorem J_null (hdg : decode M.2.1 pc = .ok (.aconst_null, 1)) (k : J X M d kc ks (pc + 1) L (.null :: st) w Q) : J X M d kc ks pc L st w Q :=
  fun p e R s m args below meth c C H locs cells slots ls hH hS hL h1 h2 => lv_null C.1 C.2.1 hdg (k p e R s m args below meth c C H locs cells slots ls hH hS hL h1 h2)
theorem J_ishr0 {a : Nat} (hdg : decode M.2.1 pc = .ok (.ishr, 1)) (ha : a < 2 ^ 31) (k : J X M d kc ks (pc + 1) L (.int (nI a) :: st) w Q) : J X M d kc ks pc L (.int (nI 0) :: .int (nI a) :: st) w Q :=
  J_ishrN (s := 0) hdg ha (by decide) (by rw [Nat.pow_zero, Nat.div_one]; exact k)
theorem J_ishl0 {a : Nat} (hdg : decode M.2.1 pc = .ok (.ishl, 1)) (ha : a < 2 ^ 31) (k : J X M d kc ks (pc + 1) L (.int (nI a) :: st) w Q) : J X M d kc ks pc L (.int (nI 0) :: .int (nI a) :: st) w Q :=
  J_ishl hdg (by
    rw [pk_shlN (n := a) _ 0 (sh_of (by decide)) (by omega), Nat.pow_zero, Nat.mul_one]
    exact k)
theorem J_subIfle {a b : Nat} {off : Int} {tgt : Nat} (hdg : decode M.2.1 pc = .ok (.isub, 1)) (hdg2 : decode M.2.1 (pc + 1) = .ok (.ifCond .le off, 3)) (ht : ((pc + 1 : Nat) : Int) + off = (tgt : Int)) (ha : a < 2 ^ 30) (hb : b < 2 ^ 30)
    (kt : a ≤ b → J X M d kc ks tgt L st w Q) (kf : b < a → J X M d kc ks (pc + 4) L st w Q) : J X M d kc ks pc L (.int (nI b) :: .int (nI a) :: st) w Q := by
  have e1 := pk_sub_toInt (a := a) (b := b) ha hb
  refine J_isub hdg (J_if_le hdg2 ht (fun h => kt ?_) (fun h => kf ?_))
  · rw [Int32.le_iff_toInt_le, e1, Int32.toInt_zero] at h
    omega
  · rw [Int32.le_iff_toInt_le, e1, Int32.toInt_zero] at h
    omega
theorem J_newB {n N : Nat} (hdg : decode M.2.1 pc = .ok (.newarray .byte, 2)) (hn : n = N) (hb : N ≤ 10000) (hkc : 1 ≤ kc) (hks : N ≤ ks)
    (kk : ∀ (a : Nat) (w' : List jC) (ys : List Int32), a = w.length → w'.length = a + 1 → w'[a]? = some (.inl (1, ys)) → ys.length = N → jFitB ys → (∀ c, c < a → w'[c]? = w[c]?) → J X M d (kc - 1) (ks - N) (pc + 2) L (.ref a :: st) w' Q) : J X M d kc ks pc L (.int (nI n) :: st) w Q := by
  subst hn
  refine J_newa (t := 1) hdg (by decide) rfl fa_byte (nI_pos (by omega)) (nI_clamp (by omega)) (by omega) hkc hks ?_
  refine kk _ _ (List.replicate n 0) rfl (by rw [List.length_append]; rfl) ?_ List.length_replicate (jFitB_rep n) (fun c hc => List.getElem?_append_left hc)
  rw [List.getElem?_append_right (Nat.le_refl _), Nat.sub_self]
  rfl
theorem J_bastS {a i : Nat} {xs : List Int32} {x : Int32} (hdg : decode M.2.1 pc = .ok (.bastore, 1)) (hw : w[a]? = some (.inl (1, xs))) (hf : jFitB xs) (hi : i < xs.length) (hl : xs.length < 2 ^ 31)
    (kk : ∀ (w' : List jC) (ys : List Int32), w'.length = w.length → w'[a]? = some (.inl (1, ys)) → ys.length = xs.length → jFitB ys → (∀ c, c ≠ a → w'[c]? = w[c]?) → J X M d kc ks (pc + 1) L st w' Q) : J X M d kc ks pc L (.int x :: .int (nI i) :: .ref a :: st) w Q :=
  J_bast hdg hw (nI_in hi hl) (kk _ _ List.length_set (List.getElem?_set_self (gl hw)) List.length_set (jFitB_set hf _ x) (fun c hc => List.getElem?_set_ne (fun e => hc e.symm)))
theorem J_copyS {index a0 a1 sp dp n : Nat} {xs ys : List Int32} (hdg : decode M.2.1 pc = .ok (.invokestatic index, 3)) (hl : Cond.methodLink M.1.cls index arraycopyName ∈ jK) (hna : Cond.native arraycopyName ∈ jK) (hst : Cond.static arraycopyName ∈ jK) (hini : Cond.initialized "java/lang/System" ∈ jK)
    (hw0 : w[a0]? = some (.inl (1, xs))) (hf0 : jFitB xs) (hw : w[a1]? = some (.inl (1, ys))) (hf : jFitB ys) (h1 : sp < 2 ^ 31) (h2 : dp < 2 ^ 31) (h3 : n < 2 ^ 31) (h4 : sp + n ≤ xs.length) (h5 : dp + n ≤ ys.length) (hd : 2 ≤ d) (h8 : (st.map fun v => v.category).sum ≤ 8)
    (kk : ∀ (w' : List jC) (zs : List Int32), w'.length = w.length → w'[a1]? = some (.inl (1, zs)) → zs.length = ys.length → jFitB zs → (∀ c, c ≠ a1 → w'[c]? = w[c]?) → J X M d kc ks (pc + 3) L st w' Q) : J X M d kc ks pc L (.int (nI n) :: .int (nI dp) :: .ref a1 :: .int (nI sp) :: .ref a0 :: st) w Q :=
  J_copy hdg hl hna hst hini hw0 hw (nI_pos h1) (nI_pos h2) (nI_pos h3) (by rw [nI_clamp h1, nI_clamp h3]; exact h4) (by rw [nI_clamp h2, nI_clamp h3]; exact h5) hf0 hd h8
    (kk _ _ List.length_set (List.getElem?_set_self (gl hw)) (jCpy_len _ _ _ _ _) (jFitB_cpy hf0 hf _ _ _) (fun c hc => List.getElem?_set_ne (fun e => hc e.symm)))
theorem J_copyOS {index a0 a1 sp dp n : Nat} {xs ys : List Int32} (hdg : decode M.2.1 pc = .ok (.invokestatic index, 3)) (hl : Cond.methodLink M.1.cls index arraycopyName ∈ jK) (hna : Cond.native arraycopyName ∈ jK) (hst : Cond.static arraycopyName ∈ jK) (hini : Cond.initialized "java/lang/System" ∈ jK)
    (hw0 : X.2.2.2.2.2[a0]? = some (.inl (1, xs))) (hf0 : jFitB xs) (hw : w[a1]? = some (.inl (1, ys))) (hf : jFitB ys) (h1 : sp < 2 ^ 31) (h2 : dp < 2 ^ 31) (h3 : n < 2 ^ 31) (h4 : sp + n ≤ xs.length) (h5 : dp + n ≤ ys.length) (hd : 2 ≤ d) (h8 : (st.map fun v => v.category).sum ≤ 8)
    (kk : ∀ (w' : List jC) (zs : List Int32), w'.length = w.length → w'[a1]? = some (.inl (1, zs)) → zs.length = ys.length → jFitB zs → (∀ c, c ≠ a1 → w'[c]? = w[c]?) → J X M d kc ks (pc + 3) L st w' Q) : J X M d kc ks pc L (.int (nI n) :: .int (nI dp) :: .ref a1 :: .int (nI sp) :: .retAddr a0 :: st) w Q :=
  J_copyO hdg hl hna hst hini hw0 hw (nI_pos h1) (nI_pos h2) (nI_pos h3) (by rw [nI_clamp h1, nI_clamp h3]; exact h4) (by rw [nI_clamp h2, nI_clamp h3]; exact h5) hf0 hd h8
    (kk _ _ List.length_set (List.getElem?_set_self (gl hw)) (jCpy_len _ _ _ _ _) (jFitB_cpy hf0 hf _ _ _) (fun c hc => List.getElem?_set_ne (fun e => hc e.symm)))
theorem J_cloneB {index a : Nat} {xs : List Int32} (hdg : decode M.2.1 pc = .ok (.invokevirtual index, 3)) (hl : Cond.methodLink M.1.cls index ⟨"[B", "clone", "()Ljava/lang/Object;"⟩ ∈ jK) (hsame : Cond.sameMethod "[B" "java/lang/Object" "clone" "()Ljava/lang/Object;" ∈ jK)
    (hnat : Cond.native ⟨"java/lang/Object", "clone", "()Ljava/lang/Object;"⟩ ∈ jK) (hinst : Cond.instanceMethod ⟨"java/lang/Object", "clone", "()Ljava/lang/Object;"⟩ ∈ jK) (hsel : Cond.selects "[B" ⟨"[B", "clone", "()Ljava/lang/Object;"⟩ ⟨"java/lang/Object", "clone", "()Ljava/lang/Object;"⟩ ∈ jK) (hcl : Cond.castable "[B" "java/lang/Cloneable" ∈ jK)
    (hw : w[a]? = some (.inl (1, xs))) (hf : jFitB xs) (hd : 1 ≤ d) (h8 : (st.map fun v => v.category).sum ≤ 8) (hkc : 1 ≤ kc) (hks : xs.length ≤ ks)
    (kk : J X M d (kc - 1) (ks - xs.length) (pc + 3) L (.ref w.length :: st) (w ++ [.inl (1, xs)]) Q) : J X M d kc ks pc L (.ref a :: st) w Q := by
  intro p e R s m args below meth c C9 H locs cells slots ls hH hS hL h1 h2
  have hA := jCtx_amb C9
  have hd1 := C9.2.2.2.2.2.2.2.2.2.2
  have hnm : s.vm.findClass "[B" = some (X.2.2.2.2.1 1) := (hA.2.1.2 1 _ rfl).2
  obtain ⟨c0, t0', f1, f2, f3⟩ := Cond.castable_spec (hA.word hcl args)
  cases hnm.symm.trans f1
  have hlen : H.size = X.2.1 + w.length := hH.1
  have hc0 : H[X.2.1 + a]? = some (arrV (X.2.2.2.2.1 1) xs.length (fun j => .int (xs.getD j 0))) := hH.2 a _ hw (fun _ e => by cases e)
  have hsz : (arrV (X.2.2.2.2.1 1) xs.length (fun j => .int (xs.getD j 0))).slots.size = xs.length := arrV_size _ _ _
  intro T hT X1
  have hcellT : T.heap[X.2.1 + a]? = some (arrV (X.2.2.2.2.1 1) xs.length (fun j => .int (xs.getD j 0))) := by rw [hT]; exact hc0
  obtain ⟨-, kA, hkA, comp, hkind⟩ := State.isArrayOf_alike X1.warmed.alike ((hA.2.1.2 1 _ rfl).1 0 (fun _ => .null))
  obtain ⟨-, kS, hkS, compS, hkindS⟩ := (hA.2.1.2 1 _ rfl).1 0 (fun _ => .null)
  obtain ⟨vm', X', st1⟩ := X1.cloneArray C9.1 C9.2.2.2.1 (hA.word hl args) (hA.word hsame args) (hA.word hnat args) (hA.word hinst args) (hA.word hsel args) (a := X.2.1 + a) (cell := arrV (X.2.2.2.2.1 1) xs.length (fun j => .int (xs.getD j 0))) hcellT (fun k h => by cases h) (fun h => by cases h) hnm f2 f3
    (fun i v hv => by
      have hk' : T.vm.classes[X.2.2.2.2.1 1]? = some kA := hkA
      have hi : i < xs.length := by
        have := (Array.getElem?_eq_some_iff.mp hv).1
        rw [hsz] at this
        exact this
      rw [arrV_read _ _ hi] at hv
      cases hv
      show T.fitsSlot (X.2.2.2.2.1 1) .none i _ = true
      simpa [State.fitsSlot, State.slotType?, hk', hkind] using jFitB_getD hf i)
    (g := F0 m pc ls (.ref (X.2.1 + a) :: st.map (jT X))) rfl (by rw [hL.1]; exact C9.2.2.1.symm) rfl (by rw [C9.2.1]; exact hdg) (by omega) (by
      show 2 * 0 + ((st.map (jT X)).map fun v => v.category).sum + 14 ≤ R.locals
      rw [jT_sum]
      omega) (by omega) (by rw [hsz]; omega) (hloader := Vm.clonesLoader_of_array hkS hkindS)
  rw [hsz] at X'
  generalize hH1 : H.push (arrV (X.2.2.2.2.1 1) xs.length (fun j => .int (xs.getD j 0))) = H1 at *
  have z1 : H1.size = H.size + 1 := by rw [← hH1, Array.size_push]
  have e1 : H1[H.size]? = some (arrV (X.2.2.2.2.1 1) xs.length (fun j => .int (xs.getD j 0))) := by rw [← hH1, Array.getElem?_push_size]
  have o1 : ∀ q : Nat, q < H.size → H1[q]? = H[q]? := fun q hq => by rw [← hH1, Array.getElem?_push, if_neg (Nat.ne_of_lt hq)]
  have hk := kk p e R s m args below meth c C9 H1 locs (cells + 1) (slots + xs.length) ls (jH_push hH z1 o1 (fun _ => by show H1[X.2.1 + w.length]? = _; rw [← hlen, e1]; rfl)) ⟨Nat.le_trans hS.1 (by omega), fun q g1 g2 => (o1 q (Nat.lt_of_lt_of_le g1 hS.1)).trans (hS.2.1 q g1 g2), hS.2.2⟩ hL (by omega) (by omega)
  rw [List.map_cons, show jT X (.ref w.length) = .ref H.size by rw [hlen]; rfl] at hk
  obtain ⟨t, b1, b2⟩ := hk ((T.setVm vm').pushCell (arrV (X.2.2.2.2.1 1) xs.length (fun j => .int (xs.getD j 0)))) (by rw [← hH1, ← hT]; rfl) X'
  refine ⟨t, st1 t ?_, b2⟩
  rw [hT]
  exact b1
theorem fl_clone : Cond.methodLink RJ7 310 ⟨"[B", "clone", "()Ljava/lang/Object;"⟩ ∈ jK := jK_of 629 (by decide +kernel) rfl
theorem fq_clone : Cond.sameMethod "[B" "java/lang/Object" "clone" "()Ljava/lang/Object;" ∈ jK := jK_of 630 (by decide +kernel) rfl
theorem fnat_clone : Cond.native ⟨"java/lang/Object", "clone", "()Ljava/lang/Object;"⟩ ∈ jK := jK_of 631 (by decide +kernel) rfl
theorem fm_clone : Cond.instanceMethod ⟨"java/lang/Object", "clone", "()Ljava/lang/Object;"⟩ ∈ jK := jK_of 632 (by decide +kernel) rfl
theorem fe_clone : Cond.selects "[B" ⟨"[B", "clone", "()Ljava/lang/Object;"⟩ ⟨"java/lang/Object", "clone", "()Ljava/lang/Object;"⟩ ∈ jK := jK_of 633 (by decide +kernel) rfl
theorem fcast_clone : Cond.castable "[B" "java/lang/Cloneable" ∈ jK := jK_of 634 (by decide +kernel) rfl
theorem J_cloneS {index a : Nat} {xs : List Int32} (hdg : decode M.2.1 pc = .ok (.invokevirtual index, 3)) (hl : Cond.methodLink M.1.cls index ⟨"[B", "clone", "()Ljava/lang/Object;"⟩ ∈ jK) (hsame : Cond.sameMethod "[B" "java/lang/Object" "clone" "()Ljava/lang/Object;" ∈ jK)
    (hnat : Cond.native ⟨"java/lang/Object", "clone", "()Ljava/lang/Object;"⟩ ∈ jK) (hinst : Cond.instanceMethod ⟨"java/lang/Object", "clone", "()Ljava/lang/Object;"⟩ ∈ jK) (hsel : Cond.selects "[B" ⟨"[B", "clone", "()Ljava/lang/Object;"⟩ ⟨"java/lang/Object", "clone", "()Ljava/lang/Object;"⟩ ∈ jK) (hcl : Cond.castable "[B" "java/lang/Cloneable" ∈ jK)
    (hw : w[a]? = some (.inl (1, xs))) (hf : jFitB xs) (hd : 1 ≤ d) (h8 : (st.map fun v => v.category).sum ≤ 8) (hkc : 1 ≤ kc) (hks : xs.length ≤ ks)
    (kk : ∀ (b : Nat) (w' : List jC), b = w.length → w'.length = b + 1 → w'[b]? = some (.inl (1, xs)) → (∀ c, c < b → w'[c]? = w[c]?) → J X M d (kc - 1) (ks - xs.length) (pc + 3) L (.ref b :: st) w' Q) : J X M d kc ks pc L (.ref a :: st) w Q := by
  refine J_cloneB hdg hl hsame hnat hinst hsel hcl hw hf hd h8 hkc hks (kk _ _ rfl (by rw [List.length_append]; rfl) ?_ (fun c hc => List.getElem?_append_left hc))
  rw [List.getElem?_append_right (Nat.le_refl _), Nat.sub_self]
  rfl
theorem J_newO {ci : Nat} {C : String} {T : u_T} {N index : Nat} {ty : Nat → FieldType} {fs : List Value} (hdg : decode M.2.1 pc = .ok (.new index, 3)) (hC : jCl ci C T N ty) (hcl : Cond.classLink M.1.cls index C ∈ jK) (hins : Cond.instantiable C N ∈ jK) (hini : Cond.initialized C ∈ jK)
    (hfs : ∀ j, j < N → defaultValue (ty j) = vp_V (fs.map (jT X)) j) (hkc : 1 ≤ kc) (hks : N ≤ ks)
    (kk : ∀ (b : Nat) (w' : List jC), b = w.length → w'.length = b + 1 → w'[b]? = some (.inr (ci, fs)) → (∀ c, c < b → w'[c]? = w[c]?) → J X M d (kc - 1) (ks - N) (pc + 3) L (.ref b :: st) w' Q) : J X M d kc ks pc L st w Q := by
  refine J_new hdg hC hcl hins hini hfs hkc hks (kk _ _ rfl (by rw [List.length_append]; rfl) ?_ (fun c hc => List.getElem?_append_left hc))
  rw [List.getElem?_append_right (Nat.le_refl _), Nat.sub_self]
  rfl
theorem J_castB {index a : Nat} {xs : List Int32} (hdg : decode M.2.1 pc = .ok (.checkcast index, 3)) (hl : Cond.classLink M.1.cls index "[B" ∈ jK) (hw : w[a]? = some (.inl (1, xs))) (kk : J X M d kc ks (pc + 3) L (.ref a :: st) w Q) : J X M d kc ks pc L (.ref a :: st) w Q := by
  intro p e R s m args below meth c C9 H locs cells slots ls hH hS hL h1 h2
  have hA := jCtx_amb C9
  have hnm : s.vm.findClass "[B" = some (X.2.2.2.2.1 1) := (hA.2.1.2 1 _ rfl).2
  have hP := jH_at hH hw (fun _ e => by cases e)
  exact va_castA C9.1 C9.2.1 C9.2.2.2.1 (hA.word hl args) hP 0 rfl hnm hdg (kk p e R s m args below meth c C9 H locs cells slots ls hH hS hL h1 h2)
theorem J_inegG {a : Nat} (hdg : decode M.2.1 pc = .ok (.ineg, 1)) (k : J X M d kc ks (pc + 1) L (.int (nI a) :: st) w Q) : J X M d kc ks pc L (.int (-nI a) :: st) w Q := J_ineg hdg (by rw [Int32.neg_neg]; exact k)
theorem J_icmp_leG {a P : Nat} {y : Int32} {off : Int} {tgt : Nat} (hdg : decode M.2.1 pc = .ok (.if_icmp .le off, 3)) (ht : (pc : Int) + off = (tgt : Int)) (hy : y = -nI P) (ha : a < 2 ^ 31) (hP : P < 2 ^ 31) (kt : P ≤ a → J X M d kc ks tgt L st w Q) (kf : a < P → J X M d kc ks (pc + 3) L st w Q) : J X M d kc ks pc L (.int y :: .int (-nI a) :: st) w Q := by
  subst hy
  exact J_icmp_le hdg ht (fun h => kt ((sb_nle ha hP).mp h)) (fun h => kf (Nat.not_le.mp fun e => h ((sb_nle ha hP).mpr e)))
theorem J_icmp_gtG {a P : Nat} {y : Int32} {off : Int} {tgt : Nat} (hdg : decode M.2.1 pc = .ok (.if_icmp .gt off, 3)) (ht : (pc : Int) + off = (tgt : Int)) (hy : y = -nI P) (ha : a < 2 ^ 31) (hP : P < 2 ^ 31) (kt : a < P → J X M d kc ks tgt L st w Q) (kf : P ≤ a → J X M d kc ks (pc + 3) L st w Q) : J X M d kc ks pc L (.int y :: .int (-nI a) :: st) w Q := by
  subst hy
  exact J_icmp_gt hdg ht (fun h => kt ((sb_nlt hP ha).mp h)) (fun h => kf (Nat.not_lt.mp fun e => h ((sb_nlt hP ha).mpr e)))
theorem J_icmp_geG {a P : Nat} {y : Int32} {off : Int} {tgt : Nat} (hdg : decode M.2.1 pc = .ok (.if_icmp .ge off, 3)) (ht : (pc : Int) + off = (tgt : Int)) (hy : y = -nI P) (ha : a < 2 ^ 31) (hP : P < 2 ^ 31) (kt : a ≤ P → J X M d kc ks tgt L st w Q) (kf : P < a → J X M d kc ks (pc + 3) L st w Q) : J X M d kc ks pc L (.int y :: .int (-nI a) :: st) w Q := by
  subst hy
  exact J_icmp_ge hdg ht (fun h => kt ((sb_nle hP ha).mp h)) (fun h => kf (Nat.not_le.mp fun e => h ((sb_nle hP ha).mpr e)))
theorem div_G : ∀ i, i < 100 → ∀ j, j < 100 → -nI (100 * i + j) / nI 100 = -nI i := by decide +kernel
theorem J_idivG {a : Nat} (hdg : decode M.2.1 pc = .ok (.idiv, 1)) (ha : a < 10000) (k : J X M d kc ks (pc + 1) L (.int (-nI (a / 100)) :: st) w Q) : J X M d kc ks pc L (.int (nI 100) :: .int (-nI a) :: st) w Q := by
  have e := div_G (a / 100) (by omega) (a % 100) (by omega)
  rw [show 100 * (a / 100) + a % 100 = a by omega] at e
  exact J_idiv hdg (nI_ne0 (by decide) (by decide)) (by rw [e]; exact k)
theorem J_imulG {a b : Nat} (hdg : decode M.2.1 pc = .ok (.imul, 1)) (k : J X M d kc ks (pc + 1) L (.int (-nI (a * b)) :: st) w Q) : J X M d kc ks pc L (.int (nI b) :: .int (-nI a) :: st) w Q :=
  J_imul hdg (by rw [Int32.neg_mul, pk_mul]; exact k)
theorem J_isubG {a b : Nat} (hdg : decode M.2.1 pc = .ok (.isub, 1)) (h : b ≤ a) (k : J X M d kc ks (pc + 1) L (.int (nI (a - b)) :: st) w Q) : J X M d kc ks pc L (.int (-nI a) :: .int (-nI b) :: st) w Q :=
  J_isub hdg (by
    have e : -nI b - -nI a = nI (a - b) := by
      rw [← pk_sub h, Int32.sub_eq_add_neg, Int32.neg_neg, Int32.sub_eq_add_neg, Int32.add_comm]
    rw [e]
    exact k)
end JSB1
/-- how many digits -/
def dgs (x : Nat) : Nat := if x < 10 then 1 else if x < 100 then 2 else if x < 1000 then 3 else 4
theorem dgs_le (x : Nat) : 1 ≤ dgs x ∧ dgs x ≤ 4 := by
  unfold dgs
  (repeat' split) <;> omega
/-- how long the bytes are behind a call for room -/
def gL (m len : Nat) : Nat := if m ≤ len then len else if m ≤ 2 * len + 2 then 2 * len + 2 else m
theorem gL_d (m len : Nat) : (m ≤ len ∧ gL m len = len) ∨ (len < m ∧ m ≤ 2 * len + 2 ∧ gL m len = 2 * len + 2) ∨ (2 * len + 2 < m ∧ gL m len = m) := by
  unfold gL
  (repeat' split) <;> omega
/-- .. behind a word -/
def gw (c x len : Nat) : Nat := if c = 0 then gL (c + dgs x) len else gL (c + 1 + dgs x) (gL (c + 1) len)
theorem gw_d (c x len : Nat) : (c = 0 ∧ gw c x len = gL (c + dgs x) len) ∨ (0 < c ∧ gw c x len = gL (c + 1 + dgs x) (gL (c + 1) len)) := by
  unfold gw
  split
  · exact Or.inl ⟨by assumption, rfl⟩
  · exact Or.inr ⟨by omega, rfl⟩
theorem gw_f (c x len : Nat) : len ≤ gw c x len ∧ (gw c x len ≤ len ∨ gw c x len ≤ 2 * (c + 1 + dgs x)) := by
  have h0 := gw_d c x len
  have h1 := gL_d (c + dgs x) len
  have h2 := gL_d (c + 1) len
  have h3 := gL_d (c + 1 + dgs x) (gL (c + 1) len)
  omega
theorem df_J0 {X : jX} : ∀ j, j < 4 → defaultValue (tyJ0 j) = vp_V (([.null, .int (nI 0), .int (nI 0), .int (nI 0)] : List Value).map (jT X)) j := by
  intro j hj
  match j with
  | 0 => rfl
  | 1 => rfl
  | 2 => rfl
  | 3 => rfl
  | j + 4 => omega
theorem df_J4 {X : jX} : ∀ j, j < 4 → defaultValue (tyJ4 j) = vp_V (([.null, .int (nI 0), .int (nI 0), .int (nI 0)] : List Value).map (jT X)) j := by
  intro j hj
  match j with
  | 0 => rfl
  | 1 => rfl
  | 2 => rfl
  | 3 => rfl
  | j + 4 => omega
theorem dgs_1 {x : Nat} (h : x < 10) : dgs x = 1 := by
  unfold dgs
  rw [if_pos h]
theorem FR.sb {b b' a v : Nat} {w w' w'' : List jC} (h : FR b b' w w') (h' : FS a v w' w'') (ha : w.length ≤ a) (hv : w.length ≤ v) : FR b b' w w'' :=
  ⟨Nat.le_trans h.1 h'.1, h.2.1, fun i h1 h2 h3 => (h'.2 i (by omega) (by omega) (Nat.lt_of_lt_of_le h3 h.1)).trans (h.2.2 i h1 h2 h3)⟩
theorem FR.gr {b b' : Nat} {w w' w'' : List jC} (h : FR b b' w w') (hl : w'.length ≤ w''.length) (hn : ∀ i, i < w'.length → w''[i]? = w'[i]?) : FR b b' w w'' :=
  ⟨Nat.le_trans h.1 hl, h.2.1, fun i h1 h2 h3 => (hn i (Nat.lt_of_lt_of_le h3 h.1)).trans (h.2.2 i h1 h2 h3)⟩
theorem SH.fs {ρ : List (jC → Prop)} {a v : Nat} {w w' : List jC} (h : SH ρ w) (h' : FS a v w w') (ha : ρ.length ≤ a) (hv : ρ.length ≤ v) : SH ρ w' :=
  h.keep (fun i hi => h'.2 i (by omega) (by omega) (h.lt hi))
theorem SH.gr {ρ : List (jC → Prop)} {w w' : List jC} (h : SH ρ w) (hn : ∀ i, i < w.length → w'[i]? = w[i]?) : SH ρ w' := h.keep (fun i hi => hn i (h.lt hi))
theorem Fr.sb {K : Nat → Prop} {a v : Nat} {w w' w'' : List jC} (h : Fr K w w') (h' : FS a v w' w'') (ha : w.length ≤ a) (hv : w.length ≤ v) : Fr K w w'' :=
  ⟨Nat.le_trans h.1 h'.1, fun i h1 h3 => (h'.2 i (by omega) (by omega) (Nat.lt_of_lt_of_le h3 h.1)).trans (h.2 i h1 h3)⟩
theorem Fr.gr {K : Nat → Prop} {w w' w'' : List jC} (h : Fr K w w') (hl : w'.length ≤ w''.length) (hn : ∀ i, i < w'.length → w''[i]? = w'[i]?) : Fr K w w'' :=
  ⟨Nat.le_trans h.1 hl, fun i h1 h3 => (hn i (Nat.lt_of_lt_of_le h3 h.1)).trans (h.2 i h1 h3)⟩
end
section
/-! contracts of the JDK's builders of texts -/
set_option maxRecDepth 100000 in
set_option maxHeartbeats 4000000 in
theorem c_J9_max_7cf53 {X : jX} (hs : X.1.stackTraces = false) {d : Nat} (hd : 0 ≤ d) {w : List jC} (a : Nat) (c : Nat) (hy0 : a < 1073741824) (hy1 : c < 1073741824) {kc ks : Nat} : jMet X mJ9_max_7cf53 d kc ks [.int (nI a), .int (nI c)] w (pI (fun v => ∃ k : Nat, v = nI k ∧ a ≤ k ∧ c ≤ k ∧ (k = a ∨ k = c)) (fun w' => w' = w)) := by
  refine jMet_ofF hs pf_J9_max_7cf53 rfl (Nat.le_of_ble_eq_true rfl) (L := [some (.int (nI a)), some (.int (nI c))]) rfl ?_
  refine J_iload_n (pc := 0) dJ9_max_7cf53_0 rfl rfl ?_
  refine J_iload_n (pc := 1) dJ9_max_7cf53_1 rfl rfl ?_
  refine J_icmp_ltN (pc := 2) (tgt := 9) dJ9_max_7cf53_2 (by decide) (by omega) (by omega) (fun ht1 => ?_) (fun hf2 => ?_)
  · refine J_iload_n (pc := 9) dJ9_max_7cf53_9 rfl rfl ?_
    exact J_iret (pc := 10) dJ9_max_7cf53_10 rfl ⟨⟨c, rfl, by omega⟩, rfl⟩
  · refine J_iload_n (pc := 5) dJ9_max_7cf53_5 rfl rfl ?_
    refine J_goto (pc := 6) (tgt := 10) dJ9_max_7cf53_6 (by decide) ?_
    exact J_iret (pc := 10) dJ9_max_7cf53_10 rfl ⟨⟨a, rfl, by omega⟩, rfl⟩
set_option maxRecDepth 100000 in
set_option maxHeartbeats 4000000 in
theorem c_J9_min_7cf53_atn {X : jX} (hs : X.1.stackTraces = false) {d : Nat} (hd : 0 ≤ d) {w : List jC} (a : Nat) (c : Nat) (hy0 : a < 1073741824) (hy1 : c < 1073741824) {kc ks : Nat} : jMet X mJ9_min_7cf53 d kc ks [.int (nI a), .int (nI c)] w (pI (fun v => ∃ k : Nat, v = nI k ∧ k ≤ a ∧ k ≤ c ∧ (k = a ∨ k = c)) (fun w' => w' = w)) := by
  refine jMet_ofF hs pf_J9_min_7cf53 rfl (Nat.le_of_ble_eq_true rfl) (L := [some (.int (nI a)), some (.int (nI c))]) rfl ?_
  refine J_iload_n (pc := 0) dJ9_min_7cf53_0 rfl rfl ?_
  refine J_iload_n (pc := 1) dJ9_min_7cf53_1 rfl rfl ?_
  refine J_icmp_gtN (pc := 2) (tgt := 9) dJ9_min_7cf53_2 (by decide) (by omega) (by omega) (fun ht1 => ?_) (fun hf2 => ?_)
  · refine J_iload_n (pc := 9) dJ9_min_7cf53_9 rfl rfl ?_
    exact J_iret (pc := 10) dJ9_min_7cf53_10 rfl ⟨⟨c, rfl, by omega⟩, rfl⟩
  · refine J_iload_n (pc := 5) dJ9_min_7cf53_5 rfl rfl ?_
    refine J_goto (pc := 6) (tgt := 10) dJ9_min_7cf53_6 (by decide) ?_
    exact J_iret (pc := 10) dJ9_min_7cf53_10 rfl ⟨⟨a, rfl, by omega⟩, rfl⟩
set_option maxRecDepth 100000 in
set_option maxHeartbeats 4000000 in
theorem c_J8_newLength_cabcc {X : jX} (hs : X.1.stackTraces = false) {d : Nat} (hd : 1 ≤ d) {w : List jC} (a : Nat) (c : Nat) (e : Nat) (hy0 : 16 ≤ a) (hy1 : a ≤ 270) (hy2 : c ≤ 270) (hy3 : e ≤ 540) {kc ks : Nat} : jMet X mJ8_newLength_cabcc d kc ks [.int (nI a), .int (nI c), .int (nI e)] w (pI (fun v => ∃ k : Nat, v = nI k ∧ a + c ≤ k ∧ a + e ≤ k ∧ (k = a + c ∨ k = a + e)) (fun w' => w' = w)) := by
  refine jMet_of hs (by decide +kernel) (Nat.le_of_ble_eq_true rfl) (L := [some (.int (nI a)), some (.int (nI c)), some (.int (nI e)), none]) rfl ?_
  have hdm : 0 ≤ d - 1 := by omega
  have hdp : d - 1 + 1 ≤ d := by omega
  refine J_iload_n (pc := 0) dJ8_newLength_cabcc_0 rfl rfl ?_
  refine J_iload_n (pc := 1) dJ8_newLength_cabcc_1 rfl rfl ?_
  refine J_iload_n (pc := 2) dJ8_newLength_cabcc_2 rfl rfl ?_
  refine J_callS0 (pc := 3) (M := mJ8_newLength_cabcc) (as := [.int (nI c), .int (nI e)]) dJ8_newLength_cabcc_3 fw_J9_max_7cf53 fl_J8_194 fs_J9_max_7cf53 rfl (c_J9_max_7cf53 hs (d := d - 1) (Nat.le_trans (by decide) hdm) (w := w) c e (by first | assumption | omega) (by first | assumption | omega) (kc := 0) (ks := 0)) hdp (st := [.int (nI a)]) (Nat.le_of_ble_eq_true rfl) rfl (kr_P fun v1 hv1 => ?_) kx_I
  obtain ⟨k1, rfl, hk1⟩ := hv1
  refine J_iaddN (pc := 6) dJ8_newLength_cabcc_6 ?_
  refine J_istore_n (pc := 7) dJ8_newLength_cabcc_7 rfl (by decide) rfl ?_
  show J X mJ8_newLength_cabcc d kc ks 8 [some (.int (nI a)), some (.int (nI c)), some (.int (nI e)), some (.int (nI (a + k1)))] [] w _
  refine J_iconst (pc := 8) (v := nI 0) dJ8_newLength_cabcc_8 (by decide) ?_
  refine J_iload_n (pc := 9) dJ8_newLength_cabcc_9 rfl rfl ?_
  refine J_icmp_geN (pc := 10) (tgt := 21) dJ8_newLength_cabcc_10 (by decide) (by omega) (by omega) (fun ht2 => ?_) (fun hf3 => ?_)
  · exact absurd ht2 (by omega)
  · refine J_iload_n (pc := 13) dJ8_newLength_cabcc_13 rfl rfl ?_
    refine J_ldc (pc := 14) (v := nI 2147483639) dJ8_newLength_cabcc_14 (by have := fk_J8_200; exact this) ?_
    refine J_icmp_gtN (pc := 16) (tgt := 21) dJ8_newLength_cabcc_16 (by decide) (by omega) (by omega) (fun ht4 => ?_) (fun hf5 => ?_)
    · exact absurd ht4 (by omega)
    · refine J_iload_n (pc := 19) dJ8_newLength_cabcc_19 rfl rfl ?_
      exact J_iret (pc := 20) dJ8_newLength_cabcc_20 rfl ⟨⟨a + k1, rfl, by omega⟩, rfl⟩
set_option maxRecDepth 100000 in
set_option maxHeartbeats 4000000 in
theorem c_J5_isLatin1_aae02 {X : jX} (hs : X.1.stackTraces = false) {d : Nat} (hd : 0 ≤ d) {a v : Nat} {ml : Int32} {c : Nat} {bs : List Int32} {w : List jC} (hB : SBp a v ml c bs w) {kc ks : Nat} : jMet X mJ5_isLatin1_aae02 d kc ks [.ref a] w (pI (fun v => v = nI 1) (fun w' => w' = w)) := by
  refine jMet_of hs (by decide +kernel) (Nat.le_of_ble_eq_true rfl) (L := [some (.ref a)]) rfl ?_
  obtain ⟨h_a, h_v, hfit, hB1, hB2, hB3⟩ := hB
  have hav : a ≠ v := fun e => by subst e; rw [h_a] at h_v; cases h_v
  have hga := gl h_a
  have hgv := gl h_v
  have hF : FS a v w w := FS.rf
  refine J_gets (pc := 0) (M := mJ5_isLatin1_aae02) (v := .int 1) dJ5_isLatin1_aae02_0 (by simp [jStat]) ff_J5_18 ?_
  show J X mJ5_isLatin1_aae02 d kc ks 3 [some (.ref a)] [.int (nI 1)] w _
  refine J_if_eqN (pc := 3) (tgt := 17) dJ5_isLatin1_aae02_3 (by decide) (by decide) (fun h => absurd h (by decide)) (fun _ => ?_)
  refine J_aload_n (pc := 6) dJ5_isLatin1_aae02_6 rfl rfl rfl ?_
  refine J_get (pc := 7) (k := 1) dJ5_isLatin1_aae02_7 kC1 (by decide) ff_J5_22 h_a rfl ?_
  show J X mJ5_isLatin1_aae02 d kc ks 10 [some (.ref a)] [.int (nI 0)] w _
  refine J_if_neN (pc := 10) (tgt := 17) dJ5_isLatin1_aae02_10 (by decide) (by decide) (fun h => absurd h (by decide)) (fun _ => ?_)
  refine J_iconst (pc := 13) (v := nI 1) dJ5_isLatin1_aae02_13 (by decide) ?_
  refine J_goto (pc := 14) (tgt := 18) dJ5_isLatin1_aae02_14 (by decide) ?_
  exact J_zret (pc := 18) dJ5_isLatin1_aae02_18 rfl (nar_b (by first | decide | omega)) ⟨rfl, rfl⟩
set_option maxRecDepth 100000 in
set_option maxHeartbeats 4000000 in
theorem c_J5_length_8abf5 {X : jX} (hs : X.1.stackTraces = false) {d : Nat} (hd : 0 ≤ d) {a v : Nat} {ml : Int32} {c : Nat} {bs : List Int32} {w : List jC} (hB : SBp a v ml c bs w) {kc ks : Nat} : jMet X mJ5_length_8abf5 d kc ks [.ref a] w (pI (fun v => v = nI c) (fun w' => w' = w)) := by
  refine jMet_of hs (by decide +kernel) (Nat.le_of_ble_eq_true rfl) (L := [some (.ref a)]) rfl ?_
  obtain ⟨h_a, h_v, hfit, hB1, hB2, hB3⟩ := hB
  have hav : a ≠ v := fun e => by subst e; rw [h_a] at h_v; cases h_v
  have hga := gl h_a
  have hgv := gl h_v
  have hF : FS a v w w := FS.rf
  refine J_aload_n (pc := 0) dJ5_length_8abf5_0 rfl rfl rfl ?_
  refine J_get (pc := 1) (k := 3) dJ5_length_8abf5_1 kC1 (by decide) ff_J5_79 h_a rfl ?_
  exact J_iret (pc := 4) dJ5_length_8abf5_4 rfl ⟨rfl, rfl⟩
set_option maxRecDepth 100000 in
set_option maxHeartbeats 4000000 in
theorem c_J4_length_8abf5 {X : jX} (hs : X.1.stackTraces = false) {d : Nat} (hd : 1 ≤ d) {a v : Nat} {ml : Int32} {c : Nat} {bs : List Int32} {w : List jC} (hB : SBp a v ml c bs w) {kc ks : Nat} : jMet X mJ4_length_8abf5 d kc ks [.ref a] w (pI (fun v => v = nI c) (fun w' => w' = w)) := by
  refine jMet_of hs (by decide +kernel) (Nat.le_of_ble_eq_true rfl) (L := [some (.ref a)]) rfl ?_
  have hdm : 0 ≤ d - 1 := by omega
  have hdp : d - 1 + 1 ≤ d := by omega
  obtain ⟨h_a, h_v, hfit, hB1, hB2, hB3⟩ := hB
  have hav : a ≠ v := fun e => by subst e; rw [h_a] at h_v; cases h_v
  have hga := gl h_a
  have hgv := gl h_v
  have hF : FS a v w w := FS.rf
  refine J_aload_n (pc := 0) dJ4_length_8abf5_0 rfl rfl rfl ?_
  refine J_callSU (pc := 1) (M := mJ4_length_8abf5) (as := []) (cj := 1) dJ4_length_8abf5_1 fw_J5_length_8abf5 fl_J4_343 fq_J5_J5_length_8abf5 fsup_J4 fm_J5_length_8abf5 (by decide) ⟨rfl, rfl⟩ h_a (by decide) rfl rfl (c_J5_length_8abf5 hs (d := d - 1) (by omega) (a := a) (v := v) (c := c) (bs := bs) (w := w) ⟨h_a, h_v, hfit, (by omega), (by omega), (by omega)⟩  (kc := 0) (ks := 0)) (by omega) (by omega) (by omega) (st := []) (Nat.le_of_ble_eq_true rfl) rfl (kr_P fun v1 hv1 => ?_) kx_I
  subst hv1
  exact J_iret (pc := 4) dJ4_length_8abf5_4 rfl ⟨rfl, rfl⟩
set_option maxRecDepth 100000 in
set_option maxHeartbeats 4000000 in
theorem c_J5_getValue_6d5f1 {X : jX} (hs : X.1.stackTraces = false) {d : Nat} (hd : 0 ≤ d) {a v : Nat} {ml : Int32} {c : Nat} {bs : List Int32} {w : List jC} (hB : SBp a v ml c bs w) {kc ks : Nat} : jMet X mJ5_getValue_6d5f1 d kc ks [.ref a] w (pA (fun r w' => r = v ∧ w' = w)) := by
  refine jMet_of hs (by decide +kernel) (Nat.le_of_ble_eq_true rfl) (L := [some (.ref a)]) rfl ?_
  obtain ⟨h_a, h_v, hfit, hB1, hB2, hB3⟩ := hB
  have hav : a ≠ v := fun e => by subst e; rw [h_a] at h_v; cases h_v
  have hga := gl h_a
  have hgv := gl h_v
  have hF : FS a v w w := FS.rf
  refine J_aload_n (pc := 0) dJ5_getValue_6d5f1_0 rfl rfl rfl ?_
  refine J_get (pc := 1) (k := 0) dJ5_getValue_6d5f1_1 kC1 (by decide) ff_J5_15 h_a rfl ?_
  exact J_aret (pc := 4) dJ5_getValue_6d5f1_4 rfl rfl rfl ⟨rfl, rfl⟩
set_option maxRecDepth 100000 in
set_option maxHeartbeats 4000000 in
theorem c_J5_newCapacity_0f7a4 {X : jX} (hs : X.1.stackTraces = false) {d : Nat} (hd : 2 ≤ d) {a v : Nat} {ml : Int32} {c : Nat} {bs : List Int32} {w : List jC} (hB : SBp a v ml c bs w) (m : Nat) (hy0 : bs.length < m) (hy1 : m ≤ 134) {kc ks : Nat} : jMet X mJ5_newCapacity_0f7a4 d kc ks [.ref a, .int (nI m)] w (pI (fun v => ∃ k : Nat, v = nI k ∧ m ≤ k ∧ 2 * bs.length + 2 ≤ k ∧ (k = m ∨ k = 2 * bs.length + 2)) (fun w' => w' = w)) := by
  refine jMet_of hs (by decide +kernel) (Nat.le_of_ble_eq_true rfl) (L := [some (.ref a), some (.int (nI m)), none, none, none, none]) rfl ?_
  have hdm : 1 ≤ d - 1 := by omega
  have hdp : d - 1 + 1 ≤ d := by omega
  obtain ⟨h_a, h_v, hfit, hB1, hB2, hB3⟩ := hB
  have hav : a ≠ v := fun e => by subst e; rw [h_a] at h_v; cases h_v
  have hga := gl h_a
  have hgv := gl h_v
  have hF : FS a v w w := FS.rf
  refine J_aload_n (pc := 0) dJ5_newCapacity_0f7a4_0 rfl rfl rfl ?_
  refine J_get (pc := 1) (k := 0) dJ5_newCapacity_0f7a4_1 kC1 (by decide) ff_J5_15 h_a rfl ?_
  refine J_alen (pc := 4) (n := nI bs.length) dJ5_newCapacity_0f7a4_4 h_v (by decide) rfl ?_
  refine J_istore_n (pc := 5) dJ5_newCapacity_0f7a4_5 rfl (by decide) rfl ?_
  show J X mJ5_newCapacity_0f7a4 d kc ks 6 [some (.ref a), some (.int (nI m)), some (.int (nI bs.length)), none, none, none] [] w _
  refine J_iload_n (pc := 6) dJ5_newCapacity_0f7a4_6 rfl rfl ?_
  refine J_aload_n (pc := 7) dJ5_newCapacity_0f7a4_7 rfl rfl rfl ?_
  refine J_get (pc := 8) (k := 1) dJ5_newCapacity_0f7a4_8 kC1 (by decide) ff_J5_22 h_a rfl ?_
  show J X mJ5_newCapacity_0f7a4 d kc ks 11 [some (.ref a), some (.int (nI m)), some (.int (nI bs.length)), none, none, none] [.int (nI 0), .int (nI m)] w _
  refine J_ishl0 (pc := 11) dJ5_newCapacity_0f7a4_11 (by omega) ?_
  refine J_istore_n (pc := 12) dJ5_newCapacity_0f7a4_12 rfl (by decide) rfl ?_
  show J X mJ5_newCapacity_0f7a4 d kc ks 13 [some (.ref a), some (.int (nI m)), some (.int (nI bs.length)), some (.int (nI m)), none, none] [] w _
  refine J_iload_n (pc := 13) dJ5_newCapacity_0f7a4_13 rfl rfl ?_
  refine J_iload_n (pc := 14) dJ5_newCapacity_0f7a4_14 rfl rfl ?_
  refine J_isubN (pc := 15) dJ5_newCapacity_0f7a4_15 (by omega) ?_
  refine J_istore (pc := 16) dJ5_newCapacity_0f7a4_16 (by decide) rfl ?_
  show J X mJ5_newCapacity_0f7a4 d kc ks 18 [some (.ref a), some (.int (nI m)), some (.int (nI bs.length)), some (.int (nI m)), some (.int (nI (m - bs.length))), none] [] w _
  refine J_iload_n (pc := 18) dJ5_newCapacity_0f7a4_18 rfl rfl ?_
  refine J_iload (pc := 19) dJ5_newCapacity_0f7a4_19 rfl ?_
  refine J_iload_n (pc := 21) dJ5_newCapacity_0f7a4_21 rfl rfl ?_
  refine J_iconst (pc := 22) (v := nI 2) dJ5_newCapacity_0f7a4_22 (by decide) ?_
  refine J_aload_n (pc := 23) dJ5_newCapacity_0f7a4_23 rfl rfl rfl ?_
  refine J_get (pc := 24) (k := 1) dJ5_newCapacity_0f7a4_24 kC1 (by decide) ff_J5_22 h_a rfl ?_
  show J X mJ5_newCapacity_0f7a4 d kc ks 27 [some (.ref a), some (.int (nI m)), some (.int (nI bs.length)), some (.int (nI m)), some (.int (nI (m - bs.length))), none] [.int (nI 0), .int (nI 2), .int (nI bs.length), .int (nI (m - bs.length)), .int (nI bs.length)] w _
  refine J_ishl0 (pc := 27) dJ5_newCapacity_0f7a4_27 (by omega) ?_
  refine J_iaddN (pc := 28) dJ5_newCapacity_0f7a4_28 ?_
  refine J_callS0 (pc := 29) (M := mJ5_newCapacity_0f7a4) (as := [.int (nI bs.length), .int (nI (m - bs.length)), .int (nI (bs.length + 2))]) dJ5_newCapacity_0f7a4_29 fw_J8_newLength_cabcc fl_J5_114 fs_J8_newLength_cabcc rfl (c_J8_newLength_cabcc hs (d := d - 1) (Nat.le_trans (by decide) hdm) (w := w) bs.length (m - bs.length) (bs.length + 2) (by first | assumption | omega) (by first | assumption | omega) (by first | assumption | omega) (by first | assumption | omega) (kc := 0) (ks := 0)) hdp (st := []) (Nat.le_of_ble_eq_true rfl) rfl (kr_P fun v1 hv1 => ?_) kx_I
  obtain ⟨k1, rfl, hk1⟩ := hv1
  refine J_istore (pc := 32) dJ5_newCapacity_0f7a4_32 (by decide) rfl ?_
  show J X mJ5_newCapacity_0f7a4 d kc ks 34 [some (.ref a), some (.int (nI m)), some (.int (nI bs.length)), some (.int (nI m)), some (.int (nI (m - bs.length))), some (.int (nI k1))] [] w _
  refine J_iload (pc := 34) dJ5_newCapacity_0f7a4_34 rfl ?_
  refine J_ldc (pc := 36) (v := nI 2147483647) dJ5_newCapacity_0f7a4_36 (by have := fk_J5_39; exact this) ?_
  refine J_icmp_neN (pc := 38) (tgt := 51) dJ5_newCapacity_0f7a4_38 (by decide) (by omega) (by omega) (fun ht2 => ?_) (fun hf3 => ?_)
  · refine J_iload (pc := 51) dJ5_newCapacity_0f7a4_51 rfl ?_
    refine J_aload_n (pc := 53) dJ5_newCapacity_0f7a4_53 rfl rfl rfl ?_
    refine J_get (pc := 54) (k := 1) dJ5_newCapacity_0f7a4_54 kC1 (by decide) ff_J5_22 h_a rfl ?_
    show J X mJ5_newCapacity_0f7a4 d kc ks 57 [some (.ref a), some (.int (nI m)), some (.int (nI bs.length)), some (.int (nI m)), some (.int (nI (m - bs.length))), some (.int (nI k1))] [.int (nI 0), .int (nI k1)] w _
    refine J_ishr0 (pc := 57) dJ5_newCapacity_0f7a4_57 (by omega) ?_
    exact J_iret (pc := 58) dJ5_newCapacity_0f7a4_58 rfl ⟨⟨k1, rfl, by omega⟩, rfl⟩
  · exact absurd hf3 (by omega)
set_option maxRecDepth 100000 in
set_option maxHeartbeats 4000000 in
theorem c_J7_copyOf_9075b {X : jX} (hs : X.1.stackTraces = false) {d : Nat} (hd : 2 ≤ d) {w : List jC} (p : Nat) (N : Nat) (bs : List Int32) (hy0 : w[p]? = some (.inl (1, bs))) (hy1 : jFitB bs) (hy2 : bs.length < N) (hy3 : N ≤ 270) {kc ks : Nat} (hkc : 1 ≤ kc) (hks : N ≤ ks) : jMet X mJ7_copyOf_9075b d kc ks [.ref p, .int (nI N)] w (pA (fun r w' => ∃ bs' : List Int32, r = w.length ∧ w'.length = w.length + 1 ∧ (∀ i, i < w.length → w'[i]? = w[i]?) ∧ w'[r]? = some (.inl (1, bs')) ∧ bs'.length = N ∧ jFitB bs')) := by
  refine jMet_of hs (by decide +kernel) (Nat.le_of_ble_eq_true rfl) (L := [some (.ref p), some (.int (nI N)), none]) rfl ?_
  have hdm : 1 ≤ d - 1 := by omega
  have hdp : d - 1 + 1 ≤ d := by omega
  have hF : FS w.length w.length w w := FS.rf
  have hgp := gl hy0
  refine J_iload_n (pc := 0) dJ7_copyOf_9075b_0 rfl rfl ?_
  refine J_aload_n (pc := 1) dJ7_copyOf_9075b_1 rfl rfl rfl ?_
  refine J_alen (pc := 2) (n := nI bs.length) dJ7_copyOf_9075b_2 hy0 (by decide) rfl ?_
  refine J_icmp_neN (pc := 3) (tgt := 14) dJ7_copyOf_9075b_3 (by decide) (by omega) (by omega) (fun ht1 => ?_) (fun hf2 => ?_)
  · refine J_iload_n (pc := 14) dJ7_copyOf_9075b_14 rfl rfl ?_
    have qgp3 := gl hy0
    refine J_newB (pc := 15) (M := mJ7_copyOf_9075b) (N := N) dJ7_copyOf_9075b_15 rfl (by omega) (by omega) (by omega) (fun a15 w3 ys3 ha3 hln3 hc3 hyl3 hyf3 hne3 => ?_)
    have hlp_3 := (hne3 p (by omega)).trans hy0
    have qF3 := hF.1
    have hF3 := hF.pu ha3 hln3 hne3
    refine J_astore_n (pc := 17) dJ7_copyOf_9075b_17 rfl (by decide) rfl rfl ?_
    show J X mJ7_copyOf_9075b d (kc - 1) (ks - N) 18 [some (.ref p), some (.int (nI N)), some (.ref a15)] [] w3 _
    refine J_aload_n (pc := 18) dJ7_copyOf_9075b_18 rfl rfl rfl ?_
    refine J_iconst (pc := 19) (v := nI 0) dJ7_copyOf_9075b_19 (by decide) ?_
    refine J_aload_n (pc := 20) dJ7_copyOf_9075b_20 rfl rfl rfl ?_
    refine J_iconst (pc := 21) (v := nI 0) dJ7_copyOf_9075b_21 (by decide) ?_
    refine J_aload_n (pc := 22) dJ7_copyOf_9075b_22 rfl rfl rfl ?_
    refine J_alen (pc := 23) (n := nI bs.length) dJ7_copyOf_9075b_23 hlp_3 (by decide) rfl ?_
    refine J_iload_n (pc := 24) dJ7_copyOf_9075b_24 rfl rfl ?_
    refine J_callS0 (pc := 25) (M := mJ7_copyOf_9075b) (as := [.int (nI bs.length), .int (nI N)]) dJ7_copyOf_9075b_25 fw_J9_min_7cf53 fl_J7_304 fs_J9_min_7cf53 rfl (c_J9_min_7cf53_atn hs (d := d - 1) (Nat.le_trans (by decide) hdm) (w := w3) bs.length N (by first | assumption | omega) (by first | assumption | omega) (kc := 0) (ks := 0)) hdp (st := [.int (nI 0), .ref a15, .int (nI 0), .ref p]) (Nat.le_of_ble_eq_true rfl) rfl (kr_P fun v4 hv4 => ?_) kx_I
    obtain ⟨k4, rfl, hk4⟩ := hv4
    refine J_copyS (pc := 28) dJ7_copyOf_9075b_28 fl_J7_150 fnat_arraycopy fs_arraycopy fz_J10 hlp_3 hy1 hc3 hyf3 (by omega) (by omega) (by omega) (by omega) (by omega) (by omega) (st := []) (Nat.le_of_ble_eq_true rfl) (fun w5 ys5 hln5 hc5 hyl5 hyf5 hne5 => ?_)
    have hlp_5 := (hne5 p (by omega)).trans hlp_3
    have hF5 := hF3.st hln5 hne5 (by omega)
    refine J_aload_n (pc := 31) dJ7_copyOf_9075b_31 rfl rfl rfl ?_
    exact J_aret (pc := 32) dJ7_copyOf_9075b_32 rfl rfl rfl ⟨ys5, by omega, by omega, fun i hi => hF5.2 i (by omega) (by omega) hi, hc5, by omega, hyf5⟩
  · exact absurd hf2 (by omega)
set_option maxRecDepth 100000 in
set_option maxHeartbeats 4000000 in
theorem c_J5_ensureCapacityInternal_d00df {X : jX} (hs : X.1.stackTraces = false) {d : Nat} (hd : 3 ≤ d) {a v : Nat} {ml : Int32} {c : Nat} {bs : List Int32} {w : List jC} (hB : SBp a v ml c bs w) (m : Nat) (hy0 : m ≤ 134) {kc ks : Nat} (hkc : (gL m bs.length - bs.length) / 18 ≤ kc) (hks : 2 * (gL m bs.length - bs.length) ≤ ks) : jMet X mJ5_ensureCapacityInternal_d00df d kc ks [.ref a, .int (nI m)] w (pV (fun w' => ∃ (v' : Nat) (bs' : List Int32), SBp a v' ml (c) bs' w' ∧ FS a v w w' ∧ (v' = v ∨ w.length ≤ v') ∧ bs'.length = gL m bs.length)) := by
  refine jMet_of hs (by decide +kernel) (Nat.le_of_ble_eq_true rfl) (L := [some (.ref a), some (.int (nI m)), none]) rfl ?_
  have hdm : 2 ≤ d - 1 := by omega
  have hdp : d - 1 + 1 ≤ d := by omega
  obtain ⟨h_a, h_v, hfit, hB1, hB2, hB3⟩ := hB
  have hav : a ≠ v := fun e => by subst e; rw [h_a] at h_v; cases h_v
  have hga := gl h_a
  have hgv := gl h_v
  have hF : FS a v w w := FS.rf
  have hgd := gL_d m bs.length
  refine J_aload_n (pc := 0) dJ5_ensureCapacityInternal_d00df_0 rfl rfl rfl ?_
  refine J_get (pc := 1) (k := 0) dJ5_ensureCapacityInternal_d00df_1 kC1 (by decide) ff_J5_15 h_a rfl ?_
  refine J_alen (pc := 4) (n := nI bs.length) dJ5_ensureCapacityInternal_d00df_4 h_v (by decide) rfl ?_
  refine J_aload_n (pc := 5) dJ5_ensureCapacityInternal_d00df_5 rfl rfl rfl ?_
  refine J_get (pc := 6) (k := 1) dJ5_ensureCapacityInternal_d00df_6 kC1 (by decide) ff_J5_22 h_a rfl ?_
  show J X mJ5_ensureCapacityInternal_d00df d kc ks 9 [some (.ref a), some (.int (nI m)), none] [.int (nI 0), .int (nI bs.length)] w _
  refine J_ishr0 (pc := 9) dJ5_ensureCapacityInternal_d00df_9 (by omega) ?_
  refine J_istore_n (pc := 10) dJ5_ensureCapacityInternal_d00df_10 rfl (by decide) rfl ?_
  show J X mJ5_ensureCapacityInternal_d00df d kc ks 11 [some (.ref a), some (.int (nI m)), some (.int (nI bs.length))] [] w _
  refine J_iload_n (pc := 11) dJ5_ensureCapacityInternal_d00df_11 rfl rfl ?_
  refine J_iload_n (pc := 12) dJ5_ensureCapacityInternal_d00df_12 rfl rfl ?_
  refine J_subIfle (pc := 13) (tgt := 38) dJ5_ensureCapacityInternal_d00df_13 dJ5_ensureCapacityInternal_d00df_14 (by decide) (by omega) (by omega) (fun ht1 => ?_) (fun hf2 => ?_)
  · exact J_vret (pc := 38) dJ5_ensureCapacityInternal_d00df_38 rfl (⟨v, bs, ⟨h_a, h_v, hfit, (by omega), (by omega), (by omega)⟩, hF, (by omega), (by omega)⟩)
  · refine J_aload_n (pc := 17) dJ5_ensureCapacityInternal_d00df_17 rfl rfl rfl ?_
    refine J_aload_n (pc := 18) dJ5_ensureCapacityInternal_d00df_18 rfl rfl rfl ?_
    refine J_get (pc := 19) (k := 0) dJ5_ensureCapacityInternal_d00df_19 kC1 (by decide) ff_J5_15 h_a rfl ?_
    refine J_aload_n (pc := 22) dJ5_ensureCapacityInternal_d00df_22 rfl rfl rfl ?_
    refine J_iload_n (pc := 23) dJ5_ensureCapacityInternal_d00df_23 rfl rfl ?_
    refine J_callP (pc := 24) (M := mJ5_ensureCapacityInternal_d00df) (as := [.int (nI m)]) (q := (RJ4, TJ4, 4)) dJ5_ensureCapacityInternal_d00df_24 fw_J5_newCapacity_0f7a4 fl_J5_104 fq_J5_J5_newCapacity_0f7a4 fm_J5_newCapacity_0f7a4 fp_J5_newCap fe_J4_J5_isLatin1_aae02 rfl h_a (by decide) rfl rfl (c_J5_newCapacity_0f7a4 hs (d := d - 1) (by omega) (a := a) (v := v) (c := c) (bs := bs) (w := w) ⟨h_a, h_v, hfit, (by omega), (by omega), (by omega)⟩ m (by first | assumption | omega) (by first | assumption | omega) (kc := 0) (ks := 0)) (by omega) (by omega) (by omega) (st := [.ref v, .ref a]) (Nat.le_of_ble_eq_true rfl) rfl (kr_P fun v3 hv3 => ?_) kx_I
    obtain ⟨k3, rfl, hk3⟩ := hv3
    refine J_aload_n (pc := 27) dJ5_ensureCapacityInternal_d00df_27 rfl rfl rfl ?_
    refine J_get (pc := 28) (k := 1) dJ5_ensureCapacityInternal_d00df_28 kC1 (by decide) ff_J5_22 h_a rfl ?_
    show J X mJ5_ensureCapacityInternal_d00df d (kc - 0) (ks - 0) 31 [some (.ref a), some (.int (nI m)), some (.int (nI bs.length))] [.int (nI 0), .int (nI k3), .ref v, .ref a] w _
    refine J_ishl0 (pc := 31) dJ5_ensureCapacityInternal_d00df_31 (by omega) ?_
    refine J_callS (pc := 32) (M := mJ5_ensureCapacityInternal_d00df) (as := [.ref v, .int (nI k3)]) dJ5_ensureCapacityInternal_d00df_32 fw_J7_copyOf_9075b fl_J5_108 fs_J7_copyOf_9075b rfl (c_J7_copyOf_9075b hs (d := d - 1) (by omega) (w := w) v k3 _ (by first | assumption | exact h_v) (by first | assumption | omega) (by first | assumption | omega) (by first | assumption | omega) (kc := 1) (ks := k3) (Nat.le_refl _) (Nat.le_refl _)) (by omega) (by omega) (by omega) (st := [.ref a]) (Nat.le_of_ble_eq_true rfl) rfl (kr_A fun r4 w4 hw4 => ?_) kx_A
    obtain ⟨ys4, hra4, hln4, hne4, hcn4, hyl4, hyf4⟩ := hw4
    have hgga4 := gl h_a
    have hggv4 := gl h_v
    have hoa_4 := (hne4 a (by omega)).trans h_a
    have hlv_4 := (hne4 v (by omega)).trans h_v
    have hFq4 := hF.1
    have hF4 := hF.pu hra4 (by omega) (fun c hc => hne4 c (by omega))
    refine J_putW (pc := 35) (k := 0) dJ5_ensureCapacityInternal_d00df_35 kC1 (by decide) ff_J5_15 (Or.inl rfl) rfl hoa_4 (Nat.le_of_ble_eq_true rfl) (fun w5 hln5 hw5 hne5 => ?_)
    have hoa_5 : w5[a]? = some (.inr (1, [.ref r4, .int (nI 0), .int ml, .int (nI c)])) := hw5
    have hlv_5 := (hne5 v (by omega)).trans hlv_4
    have hlr4_5 := (hne5 r4 (by omega)).trans hcn4
    have hF5 := hF4.st hln5 hne5 (by omega)
    exact J_vret (pc := 38) dJ5_ensureCapacityInternal_d00df_38 rfl (⟨r4, ys4, ⟨hoa_5, hlr4_5, hyf4, (by omega), (by omega), (by omega)⟩, hF5, (by omega), (by omega)⟩)
set_option maxRecDepth 100000 in
set_option maxHeartbeats 4000000 in
theorem c_J1_canEncode_fc78d {X : jX} (hs : X.1.stackTraces = false) {d : Nat} (hd : 0 ≤ d) {w : List jC} (a : Nat) (hy0 : a ≤ 255) {kc ks : Nat} : jMet X mJ1_canEncode_fc78d d kc ks [.int (nI a)] w (pI (fun v => v = nI 1) (fun w' => w' = w)) := by
  refine jMet_of hs (by decide +kernel) (Nat.le_of_ble_eq_true rfl) (L := [some (.int (nI a))]) rfl ?_
  refine J_iload_n (pc := 0) dJ1_canEncode_fc78d_0 rfl rfl ?_
  refine J_sipush (pc := 1) (v := nI 255) dJ1_canEncode_fc78d_1 (by decide) ?_
  refine J_icmp_gtN (pc := 4) (tgt := 11) dJ1_canEncode_fc78d_4 (by decide) (by omega) (by omega) (fun ht1 => ?_) (fun hf2 => ?_)
  · exact absurd ht1 (by omega)
  · refine J_iconst (pc := 7) (v := nI 1) dJ1_canEncode_fc78d_7 (by decide) ?_
    refine J_goto (pc := 8) (tgt := 12) dJ1_canEncode_fc78d_8 (by decide) ?_
    exact J_zret (pc := 12) dJ1_canEncode_fc78d_12 rfl (nar_b (by first | decide | omega)) ⟨rfl, rfl⟩
set_option maxRecDepth 100000 in
set_option maxHeartbeats 4000000 in
theorem c_J5_append_3fe6f {X : jX} (hs : X.1.stackTraces = false) {d : Nat} (hd : 4 ≤ d) {a v : Nat} {ml : Int32} {c : Nat} {bs : List Int32} {w : List jC} (hB : SBp a v ml c bs w) (x : Nat) (hy0 : x ≤ 127) (hy1 : c ≤ 128) {kc ks : Nat} (hkc : (gL (c + 1) bs.length - bs.length) / 18 ≤ kc) (hks : 2 * (gL (c + 1) bs.length - bs.length) ≤ ks) : jMet X mJ5_append_3fe6f d kc ks [.ref a, .int (nI x)] w (pA (fun r w' => r = a ∧ ∃ (v' : Nat) (bs' : List Int32), SBp a v' ml (c + 1) bs' w' ∧ FS a v w w' ∧ (v' = v ∨ w.length ≤ v') ∧ bs'.length = gL (c + 1) bs.length)) := by
  refine jMet_of hs (by decide +kernel) (Nat.le_of_ble_eq_true rfl) (L := [some (.ref a), some (.int (nI x))]) rfl ?_
  have hdm : 3 ≤ d - 1 := by omega
  have hdp : d - 1 + 1 ≤ d := by omega
  obtain ⟨h_a, h_v, hfit, hB1, hB2, hB3⟩ := hB
  have hav : a ≠ v := fun e => by subst e; rw [h_a] at h_v; cases h_v
  have hga := gl h_a
  have hgv := gl h_v
  have hF : FS a v w w := FS.rf
  have hgd := gL_d (c + 1) bs.length
  refine J_aload_n (pc := 0) dJ5_append_3fe6f_0 rfl rfl rfl ?_
  refine J_aload_n (pc := 1) dJ5_append_3fe6f_1 rfl rfl rfl ?_
  refine J_get (pc := 2) (k := 3) dJ5_append_3fe6f_2 kC1 (by decide) ff_J5_79 h_a rfl ?_
  refine J_iconst (pc := 5) (v := nI 1) dJ5_append_3fe6f_5 (by decide) ?_
  refine J_iaddN (pc := 6) dJ5_append_3fe6f_6 ?_
  refine J_callP (pc := 7) (M := mJ5_append_3fe6f) (as := [.int (nI (c + 1))]) (q := (RJ4, TJ4, 4)) dJ5_append_3fe6f_7 fw_J5_ensureCapacityInternal_d00df fl_J5_100 fq_J5_J5_ensureCapacityInternal_d00df fm_J5_ensureCapacityInternal_d00df fp_J5_ensure fe_J4_J5_isLatin1_aae02 rfl h_a (by decide) rfl rfl (c_J5_ensureCapacityInternal_d00df hs (d := d - 1) (by omega) (a := a) (v := v) (c := c) (bs := bs) (w := w) ⟨h_a, h_v, hfit, (by omega), (by omega), (by omega)⟩ (c + 1) (by first | assumption | omega) (kc := ((gL (c + 1) bs.length - bs.length) / 18)) (ks := (2 * (gL (c + 1) bs.length - bs.length))) (Nat.le_refl _) (Nat.le_refl _)) (by omega) (by omega) (by omega) (st := []) (Nat.le_of_ble_eq_true rfl) rfl (kr_V fun w1 hw1 => ?_) kx_V
  obtain ⟨v1', ys1, ⟨h_a1, h_v1, hfit1, hB11, hB21, hB31⟩, hFc1, hvv1, hp1_0⟩ := hw1
  have hav1 : a ≠ v1' := fun e => by rw [e] at h_a1; rw [h_a1] at h_v1; cases h_v1
  have hgl1 := hFc1.1
  have hgf2 := gL_d (c + 1) bs.length
  have hF1 := hF.tr hFc1 (by omega)
  refine J_aload_n (pc := 10) dJ5_append_3fe6f_10 rfl rfl rfl ?_
  refine J_callU (pc := 11) (M := mJ5_append_3fe6f) (as := []) (x := yJ5_isLatin1_aae02) (owner := RJ5) (q := (RJ4, TJ4, 4)) dJ5_append_3fe6f_11 fw_J5_isLatin1_aae02 fl_J5_83 fq_J5_J5_isLatin1_aae02 fm_J5_isLatin1_aae02 fe_J4_J5_isLatin1_aae02 rfl h_a1 (by decide) rfl rfl (c_J5_isLatin1_aae02 hs (d := d - 1) (by omega) (a := a) (v := v1') (c := c) (bs := ys1) (w := w1) ⟨h_a1, h_v1, hfit1, (by omega), (by omega), (by omega)⟩  (kc := 0) (ks := 0)) (by omega) (by omega) (by omega) (st := []) (Nat.le_of_ble_eq_true rfl) rfl (kr_P fun v3 hv3 => ?_) kx_I
  subst hv3
  refine J_if_eqN (pc := 14) (tgt := 45) dJ5_append_3fe6f_14 (by decide) (by decide) (fun h => absurd h (by decide)) (fun _ => ?_)
  refine J_iload_n (pc := 17) dJ5_append_3fe6f_17 rfl rfl ?_
  refine J_callS0 (pc := 18) (M := mJ5_append_3fe6f) (as := [.int (nI x)]) dJ5_append_3fe6f_18 fw_J1_canEncode_fc78d fl_J5_191 fs_J1_canEncode_fc78d rfl (c_J1_canEncode_fc78d hs (d := d - 1) (Nat.le_trans (by decide) hdm) (w := w1) x (by first | assumption | omega) (kc := 0) (ks := 0)) hdp (st := []) (Nat.le_of_ble_eq_true rfl) rfl (kr_P fun v4 hv4 => ?_) kx_I
  subst hv4
  refine J_if_eqN (pc := 21) (tgt := 45) dJ5_append_3fe6f_21 (by decide) (by decide) (fun h => absurd h (by decide)) (fun _ => ?_)
  refine J_aload_n (pc := 24) dJ5_append_3fe6f_24 rfl rfl rfl ?_
  refine J_get (pc := 25) (k := 0) dJ5_append_3fe6f_25 kC1 (by decide) ff_J5_15 h_a1 rfl ?_
  refine J_aload_n (pc := 28) dJ5_append_3fe6f_28 rfl rfl rfl ?_
  refine J_dup (pc := 29) dJ5_append_3fe6f_29 rfl ?_
  refine J_get (pc := 30) (k := 3) dJ5_append_3fe6f_30 kC1 (by decide) ff_J5_79 h_a1 rfl ?_
  refine J_dup_x1 (pc := 33) dJ5_append_3fe6f_33 rfl rfl ?_
  refine J_iconst (pc := 34) (v := nI 1) dJ5_append_3fe6f_34 (by decide) ?_
  refine J_iaddN (pc := 35) dJ5_append_3fe6f_35 ?_
  refine J_putW (pc := 36) (k := 3) dJ5_append_3fe6f_36 kC1 (by decide) ff_J5_79 (Or.inl rfl) ⟨rfl, rfl⟩ h_a1 (Nat.le_of_ble_eq_true rfl) (fun w5 hln5 hw5 hne5 => ?_)
  have hoa_5 : w5[a]? = some (.inr (1, [.ref v1', .int (nI 0), .int ml, .int (nI (c + 1))])) := hw5
  have hlv1'_5 := (hne5 v1' (by omega)).trans h_v1
  have hF5 := hF1.st hln5 hne5 (by omega)
  refine J_iload_n (pc := 39) dJ5_append_3fe6f_39 rfl rfl ?_
  refine J_i2b (pc := 40) dJ5_append_3fe6f_40 (J_absI fun x6 => ?_)
  refine J_bastS (pc := 41) dJ5_append_3fe6f_41 hlv1'_5 hfit1 (by omega) (by omega) (fun w7 ys7 hln7 hc7 hyl7 hyf7 hne7 => ?_)
  have hoa_7 := (hne7 a (by omega)).trans hoa_5
  have hF7 := hF5.st hln7 hne7 (by omega)
  refine J_goto (pc := 42) (tgt := 75) dJ5_append_3fe6f_42 (by decide) ?_
  refine J_aload_n (pc := 75) dJ5_append_3fe6f_75 rfl rfl rfl ?_
  exact J_aret (pc := 76) dJ5_append_3fe6f_76 rfl rfl rfl ⟨rfl, ⟨v1', ys7, ⟨hoa_7, hc7, hyf7, (by omega), (by omega), (by omega)⟩, hF7, (by omega), (by omega)⟩⟩
set_option maxRecDepth 100000 in
set_option maxHeartbeats 4000000 in
theorem c_J4_append_cf468 {X : jX} (hs : X.1.stackTraces = false) {d : Nat} (hd : 5 ≤ d) {a v : Nat} {ml : Int32} {c : Nat} {bs : List Int32} {w : List jC} (hB : SBp a v ml c bs w) (x : Nat) (hy0 : x ≤ 127) (hy1 : c ≤ 128) {kc ks : Nat} (hkc : (gL (c + 1) bs.length - bs.length) / 18 ≤ kc) (hks : 2 * (gL (c + 1) bs.length - bs.length) ≤ ks) : jMet X mJ4_append_cf468 d kc ks [.ref a, .int (nI x)] w (pA (fun r w' => r = a ∧ ∃ (v' : Nat) (bs' : List Int32), SBp a v' ml (c + 1) bs' w' ∧ FS a v w w' ∧ (v' = v ∨ w.length ≤ v') ∧ bs'.length = gL (c + 1) bs.length)) := by
  refine jMet_of hs (by decide +kernel) (Nat.le_of_ble_eq_true rfl) (L := [some (.ref a), some (.int (nI x))]) rfl ?_
  have hdm : 4 ≤ d - 1 := by omega
  have hdp : d - 1 + 1 ≤ d := by omega
  obtain ⟨h_a, h_v, hfit, hB1, hB2, hB3⟩ := hB
  have hav : a ≠ v := fun e => by subst e; rw [h_a] at h_v; cases h_v
  have hga := gl h_a
  have hgv := gl h_v
  have hF : FS a v w w := FS.rf
  have hgd := gL_d (c + 1) bs.length
  refine J_aload_n (pc := 0) dJ4_append_cf468_0 rfl rfl rfl ?_
  refine J_iload_n (pc := 1) dJ4_append_cf468_1 rfl rfl ?_
  refine J_callSU (pc := 2) (M := mJ4_append_cf468) (as := [.int (nI x)]) (cj := 1) dJ4_append_cf468_2 fw_J5_append_3fe6f fl_J4_50 fq_J5_J5_append_3fe6f fsup_J4 fm_J5_append_3fe6f (by decide) ⟨rfl, rfl⟩ h_a (by decide) rfl rfl (c_J5_append_3fe6f hs (d := d - 1) (by omega) (a := a) (v := v) (c := c) (bs := bs) (w := w) ⟨h_a, h_v, hfit, (by omega), (by omega), (by omega)⟩ x (by first | assumption | omega) (by first | assumption | omega) (kc := ((gL (c + 1) bs.length - bs.length) / 18)) (ks := (2 * (gL (c + 1) bs.length - bs.length))) (Nat.le_refl _) (Nat.le_refl _)) (by omega) (by omega) (by omega) (st := []) (Nat.le_of_ble_eq_true rfl) rfl (kr_A fun r1 w1 hw1 => ?_) kx_A
  obtain ⟨hra1, v1', ys1, ⟨h_a1, h_v1, hfit1, hB11, hB21, hB31⟩, hFc1, hvv1, hp1_0⟩ := hw1
  obtain rfl := hra1.symm
  have hav1 : a ≠ v1' := fun e => by rw [e] at h_a1; rw [h_a1] at h_v1; cases h_v1
  have hgl1 := hFc1.1
  have hgf2 := gL_d (c + 1) bs.length
  have hF1 := hF.tr hFc1 (by omega)
  refine J_pop (pc := 5) dJ4_append_cf468_5 rfl ?_
  refine J_aload_n (pc := 6) dJ4_append_cf468_6 rfl rfl rfl ?_
  exact J_aret (pc := 7) dJ4_append_cf468_7 rfl rfl rfl ⟨rfl, ⟨v1', ys1, ⟨h_a1, h_v1, hfit1, (by omega), (by omega), (by omega)⟩, hF1, (by omega), (by omega)⟩⟩
set_option maxRecDepth 100000 in
set_option maxHeartbeats 4000000 in
theorem c_J6_stringSize_0f7a4 {X : jX} (hs : X.1.stackTraces = false) {d : Nat} (hd : 0 ≤ d) {w : List jC} (x : Nat) (hy0 : x < 10000) {kc ks : Nat} : jMet X mJ6_stringSize_0f7a4 d kc ks [.int (nI x)] w (pI (fun v => v = nI (dgs x)) (fun w' => w' = w)) := by
  refine jMet_of hs (by decide +kernel) (Nat.le_of_ble_eq_true rfl) (L := [some (.int (nI x)), none, none, none]) rfl ?_
  refine J_iconst (pc := 0) (v := nI 1) dJ6_stringSize_0f7a4_0 (by decide) ?_
  refine J_istore_n (pc := 1) dJ6_stringSize_0f7a4_1 rfl (by decide) rfl ?_
  show J X mJ6_stringSize_0f7a4 d kc ks 2 [some (.int (nI x)), some (.int (nI 1)), none, none] [] w _
  refine J_iload_n (pc := 2) dJ6_stringSize_0f7a4_2 rfl rfl ?_
  refine J_if_ltN (pc := 3) (tgt := 11) dJ6_stringSize_0f7a4_3 (by decide) (by omega) (fun hf2 => ?_)
  refine J_iconst (pc := 6) (v := nI 0) dJ6_stringSize_0f7a4_6 (by decide) ?_
  refine J_istore_n (pc := 7) dJ6_stringSize_0f7a4_7 rfl (by decide) rfl ?_
  show J X mJ6_stringSize_0f7a4 d kc ks 8 [some (.int (nI x)), some (.int (nI 0)), none, none] [] w _
  refine J_iload_n (pc := 8) dJ6_stringSize_0f7a4_8 rfl rfl ?_
  refine J_ineg (pc := 9) dJ6_stringSize_0f7a4_9 ?_
  refine J_istore_n (pc := 10) dJ6_stringSize_0f7a4_10 rfl (by decide) rfl ?_
  show J X mJ6_stringSize_0f7a4 d kc ks 11 [some (.int (-nI x)), some (.int (nI 0)), none, none] [] w _
  refine J_bipush (pc := 11) (v := (-10)) dJ6_stringSize_0f7a4_11 (by decide) ?_
  refine J_istore_n (pc := 13) dJ6_stringSize_0f7a4_13 rfl (by decide) rfl ?_
  show J X mJ6_stringSize_0f7a4 d kc ks 14 [some (.int (-nI x)), some (.int (nI 0)), some (.int (-10)), none] [] w _
  refine J_iconst (pc := 14) (v := nI 1) dJ6_stringSize_0f7a4_14 (by decide) ?_
  refine J_istore_n (pc := 15) dJ6_stringSize_0f7a4_15 rfl (by decide) rfl ?_
  show J X mJ6_stringSize_0f7a4 d kc ks 16 [some (.int (-nI x)), some (.int (nI 0)), some (.int (-10)), some (.int (nI 1))] [] w _
  refine J_iload_n (pc := 16) dJ6_stringSize_0f7a4_16 rfl rfl ?_
  refine J_bipush (pc := 17) (v := nI 10) dJ6_stringSize_0f7a4_17 (by decide) ?_
  refine J_icmp_geN (pc := 19) (tgt := 42) dJ6_stringSize_0f7a4_19 (by decide) (by decide) (by decide) (fun h => absurd h (by decide)) (fun _ => ?_)
  refine J_iload_n (pc := 22) dJ6_stringSize_0f7a4_22 rfl rfl ?_
  refine J_iload_n (pc := 23) dJ6_stringSize_0f7a4_23 rfl rfl ?_
  refine J_icmp_leG (pc := 24) (tgt := 31) (P := 10) dJ6_stringSize_0f7a4_24 (by decide) (by decide) (by omega) (by decide) (fun ht3 => ?_) (fun hf4 => ?_)
  · refine J_bipush (pc := 31) (v := nI 10) dJ6_stringSize_0f7a4_31 (by decide) ?_
    refine J_iload_n (pc := 33) dJ6_stringSize_0f7a4_33 rfl rfl ?_
    refine J_imul (pc := 34) dJ6_stringSize_0f7a4_34 ?_
    rw [show nI 10 * (-10) = (-100) by decide]
    refine J_istore_n (pc := 35) dJ6_stringSize_0f7a4_35 rfl (by decide) rfl ?_
    show J X mJ6_stringSize_0f7a4 d kc ks 36 [some (.int (-nI x)), some (.int (nI 0)), some (.int (-100)), some (.int (nI 1))] [] w _
    refine J_iincN (pc := 36) (b := 1) dJ6_stringSize_0f7a4_36 rfl (by decide) (by decide) rfl ?_
    show J X mJ6_stringSize_0f7a4 d kc ks 39 [some (.int (-nI x)), some (.int (nI 0)), some (.int (-100)), some (.int (nI 2))] [] w _
    refine J_goto (pc := 39) (tgt := 16) dJ6_stringSize_0f7a4_39 (by decide) ?_
    refine J_iload_n (pc := 16) dJ6_stringSize_0f7a4_16 rfl rfl ?_
    refine J_bipush (pc := 17) (v := nI 10) dJ6_stringSize_0f7a4_17 (by decide) ?_
    refine J_icmp_geN (pc := 19) (tgt := 42) dJ6_stringSize_0f7a4_19 (by decide) (by decide) (by decide) (fun h => absurd h (by decide)) (fun _ => ?_)
    refine J_iload_n (pc := 22) dJ6_stringSize_0f7a4_22 rfl rfl ?_
    refine J_iload_n (pc := 23) dJ6_stringSize_0f7a4_23 rfl rfl ?_
    refine J_icmp_leG (pc := 24) (tgt := 31) (P := 100) dJ6_stringSize_0f7a4_24 (by decide) (by decide) (by omega) (by decide) (fun ht5 => ?_) (fun hf6 => ?_)
    · refine J_bipush (pc := 31) (v := nI 10) dJ6_stringSize_0f7a4_31 (by decide) ?_
      refine J_iload_n (pc := 33) dJ6_stringSize_0f7a4_33 rfl rfl ?_
      refine J_imul (pc := 34) dJ6_stringSize_0f7a4_34 ?_
      rw [show nI 10 * (-100) = (-1000) by decide]
      refine J_istore_n (pc := 35) dJ6_stringSize_0f7a4_35 rfl (by decide) rfl ?_
      show J X mJ6_stringSize_0f7a4 d kc ks 36 [some (.int (-nI x)), some (.int (nI 0)), some (.int (-1000)), some (.int (nI 2))] [] w _
      refine J_iincN (pc := 36) (b := 1) dJ6_stringSize_0f7a4_36 rfl (by decide) (by decide) rfl ?_
      show J X mJ6_stringSize_0f7a4 d kc ks 39 [some (.int (-nI x)), some (.int (nI 0)), some (.int (-1000)), some (.int (nI 3))] [] w _
      refine J_goto (pc := 39) (tgt := 16) dJ6_stringSize_0f7a4_39 (by decide) ?_
      refine J_iload_n (pc := 16) dJ6_stringSize_0f7a4_16 rfl rfl ?_
      refine J_bipush (pc := 17) (v := nI 10) dJ6_stringSize_0f7a4_17 (by decide) ?_
      refine J_icmp_geN (pc := 19) (tgt := 42) dJ6_stringSize_0f7a4_19 (by decide) (by decide) (by decide) (fun h => absurd h (by decide)) (fun _ => ?_)
      refine J_iload_n (pc := 22) dJ6_stringSize_0f7a4_22 rfl rfl ?_
      refine J_iload_n (pc := 23) dJ6_stringSize_0f7a4_23 rfl rfl ?_
      refine J_icmp_leG (pc := 24) (tgt := 31) (P := 1000) dJ6_stringSize_0f7a4_24 (by decide) (by decide) (by omega) (by decide) (fun ht7 => ?_) (fun hf8 => ?_)
      · refine J_bipush (pc := 31) (v := nI 10) dJ6_stringSize_0f7a4_31 (by decide) ?_
        refine J_iload_n (pc := 33) dJ6_stringSize_0f7a4_33 rfl rfl ?_
        refine J_imul (pc := 34) dJ6_stringSize_0f7a4_34 ?_
        rw [show nI 10 * (-1000) = (-10000) by decide]
        refine J_istore_n (pc := 35) dJ6_stringSize_0f7a4_35 rfl (by decide) rfl ?_
        show J X mJ6_stringSize_0f7a4 d kc ks 36 [some (.int (-nI x)), some (.int (nI 0)), some (.int (-10000)), some (.int (nI 3))] [] w _
        refine J_iincN (pc := 36) (b := 1) dJ6_stringSize_0f7a4_36 rfl (by decide) (by decide) rfl ?_
        show J X mJ6_stringSize_0f7a4 d kc ks 39 [some (.int (-nI x)), some (.int (nI 0)), some (.int (-10000)), some (.int (nI 4))] [] w _
        refine J_goto (pc := 39) (tgt := 16) dJ6_stringSize_0f7a4_39 (by decide) ?_
        refine J_iload_n (pc := 16) dJ6_stringSize_0f7a4_16 rfl rfl ?_
        refine J_bipush (pc := 17) (v := nI 10) dJ6_stringSize_0f7a4_17 (by decide) ?_
        refine J_icmp_geN (pc := 19) (tgt := 42) dJ6_stringSize_0f7a4_19 (by decide) (by decide) (by decide) (fun h => absurd h (by decide)) (fun _ => ?_)
        refine J_iload_n (pc := 22) dJ6_stringSize_0f7a4_22 rfl rfl ?_
        refine J_iload_n (pc := 23) dJ6_stringSize_0f7a4_23 rfl rfl ?_
        refine J_icmp_leG (pc := 24) (tgt := 31) (P := 10000) dJ6_stringSize_0f7a4_24 (by decide) (by decide) (by omega) (by decide) (fun ht9 => ?_) (fun hf10 => ?_)
        · exact absurd ht9 (by omega)
        · refine J_iload_n (pc := 27) dJ6_stringSize_0f7a4_27 rfl rfl ?_
          refine J_iload_n (pc := 28) dJ6_stringSize_0f7a4_28 rfl rfl ?_
          refine J_iaddN (pc := 29) dJ6_stringSize_0f7a4_29 ?_
          exact J_iret (pc := 30) dJ6_stringSize_0f7a4_30 rfl ⟨(congrArg nI (by unfold dgs; (repeat' split) <;> omega)), rfl⟩
      · refine J_iload_n (pc := 27) dJ6_stringSize_0f7a4_27 rfl rfl ?_
        refine J_iload_n (pc := 28) dJ6_stringSize_0f7a4_28 rfl rfl ?_
        refine J_iaddN (pc := 29) dJ6_stringSize_0f7a4_29 ?_
        exact J_iret (pc := 30) dJ6_stringSize_0f7a4_30 rfl ⟨(congrArg nI (by unfold dgs; (repeat' split) <;> omega)), rfl⟩
    · refine J_iload_n (pc := 27) dJ6_stringSize_0f7a4_27 rfl rfl ?_
      refine J_iload_n (pc := 28) dJ6_stringSize_0f7a4_28 rfl rfl ?_
      refine J_iaddN (pc := 29) dJ6_stringSize_0f7a4_29 ?_
      exact J_iret (pc := 30) dJ6_stringSize_0f7a4_30 rfl ⟨(congrArg nI (by unfold dgs; (repeat' split) <;> omega)), rfl⟩
  · refine J_iload_n (pc := 27) dJ6_stringSize_0f7a4_27 rfl rfl ?_
    refine J_iload_n (pc := 28) dJ6_stringSize_0f7a4_28 rfl rfl ?_
    refine J_iaddN (pc := 29) dJ6_stringSize_0f7a4_29 ?_
    exact J_iret (pc := 30) dJ6_stringSize_0f7a4_30 rfl ⟨(congrArg nI (by unfold dgs; (repeat' split) <;> omega)), rfl⟩
end
