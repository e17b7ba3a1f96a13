section
/-! the house's acts, exactly -/
set_option maxRecDepth 100000 in
set_option maxHeartbeats 4000000 in
theorem c_X6_number_atx {X : jX} (hs : X.1.stackTraces = false) {d : Nat} (hd : 12 ≤ d) {n : Nat} {e r q : Int32} {cm : Nat → Nat} {w : List jC} (hH : HX n e r q cm w) (hn1 : 2 ≤ n) (hn2 : n ≤ 7) (hcm : ∀ c, c < 6 → Mv n (cm c)) (p0 : Int32) {kc ks : Nat} (hkc : 1 ≤ kc) (hks : 6 ≤ ks) : jMet X mX6_number d kc ks [.ref 0, .int p0] w (pX (pJ (fun v w' => ∃ a : Nat, p0 = nI a ∧ a < 6 ∧ v = nI (nu n (cm a)) ∧ HX n e r q cm w' ∧ FH w w')) (fun E w' => ((E = "java/lang/IndexOutOfBoundsException" ∧ ¬ (isN p0 6))) ∧ w' = w ++ [.inr (99, [])])) := by
  refine jMet_of hs (by decide +kernel) (Nat.le_of_ble_eq_true rfl) (L := [some (.ref 0), some (.int p0)]) rfl ?_
  obtain ⟨h0, h1⟩ := hH
  have hG : FH w w := FH.rf
  refine J_iload_n (pc := 0) dX6_number_0 rfl rfl ?_
  refine J_callS (pc := 1) (M := mX6_number) (as := [.int p0]) dX6_number_1 fw_X6_needCell fl_X6_67 fs_X6_needCell rfl (c_X6_needCell_att hs (d := d - 1) (by omega) (w := w) p0 (kc := 1) (ks := 6) (Nat.le_refl _) (Nat.le_refl _)) (by omega) (by omega) (by omega) (st := []) (Nat.le_of_ble_eq_true rfl) rfl (kr_X (kr_V fun w1 hw1 => ?_)) (kx_X fun E1 w1 hx1 => ?_)
  · obtain ⟨hq1, hp1⟩ := hw1
    obtain rfl := hq1.symm
    obtain ⟨b1, hb1, rfl⟩ := hp1
    refine J_aload_n (pc := 4) dX6_number_4 rfl rfl rfl ?_
    refine J_get (pc := 5) (k := 0) dX6_number_5 kC7 (by decide) ff_X6_9 h0 rfl ?_
    refine J_iload_n (pc := 8) dX6_number_8 rfl rfl ?_
    refine J_ialdF (pc := 9) dX6_number_9 h1 (by omega) (by decide) ?_
    refine J_aload_n (pc := 10) dX6_number_10 rfl rfl rfl ?_
    refine J_get (pc := 11) (k := 5) dX6_number_11 kC7 (by decide) ff_X6_41 h0 rfl ?_
    refine J_callS0 (pc := 14) (M := mX6_number) (as := [.int (nI (cm b1)), .int (nI n)]) dX6_number_14 fw_X2_numberOf fl_X6_75 fs_X2_numberOf rfl (c_X2_numberOf_atx hs (d := d - 1) (by omega) (w := w) (cm b1) n (by exact (hcm _ hb1).1) (by exact hn2) (by exact (hcm _ hb1).2.1) (kc := 0) (ks := 0)) (by omega) (st := []) (Nat.le_of_ble_eq_true rfl) rfl (kr_P fun v2 hv2 => ?_) kx_I
    subst hv2
    exact J_iret (pc := 17) dX6_number_17 rfl (⟨b1, rfl, hb1, (by rfl), ⟨h0, h1⟩, hG⟩)
  · exact JX_out (fun _ h => nomatch h) (by obtain ⟨h1x, h2x, h3x⟩ := hx1; exact ⟨⟨h1x, fun g => ne_isN h3x g⟩, h2x⟩)
set_option maxRecDepth 100000 in
set_option maxHeartbeats 4000000 in
theorem c_X6_goes_atx {X : jX} (hs : X.1.stackTraces = false) {d : Nat} (hd : 12 ≤ d) {n : Nat} {e r q : Int32} {cm : Nat → Nat} {w : List jC} (hH : HX n e r q cm w) (hn1 : 2 ≤ n) (hn2 : n ≤ 7) (hcm : ∀ c, c < 6 → Mv n (cm c)) (p0 : Int32) (p1 : Int32) {kc ks : Nat} (hkc : 2 ≤ kc) (hks : 12 ≤ ks) : jMet X mX6_goes d kc ks [.ref 0, .int p0, .int p1] w (pX (pJ (fun v w' => ∃ a : Nat, ∃ b : Nat, p0 = nI a ∧ p1 = nI b ∧ a < 6 ∧ b < n ∧ v = nI (d8 (cm a) b) ∧ HX n e r q cm w' ∧ FH w w')) (fun E w' => ((E = "java/lang/IndexOutOfBoundsException" ∧ ¬ (isN p0 6 ∧ isN p1 n))) ∧ w' = w ++ [.inr (99, [])])) := by
  refine jMet_of hs (by decide +kernel) (Nat.le_of_ble_eq_true rfl) (L := [some (.ref 0), some (.int p0), some (.int p1)]) rfl ?_
  obtain ⟨h0, h1⟩ := hH
  have hG : FH w w := FH.rf
  refine J_iload_n (pc := 0) dX6_goes_0 rfl rfl ?_
  refine J_callS (pc := 1) (M := mX6_goes) (as := [.int p0]) dX6_goes_1 fw_X6_needCell fl_X6_67 fs_X6_needCell rfl (c_X6_needCell_att hs (d := d - 1) (by omega) (w := w) p0 (kc := 1) (ks := 6) (Nat.le_refl _) (Nat.le_refl _)) (by omega) (by omega) (by omega) (st := []) (Nat.le_of_ble_eq_true rfl) rfl (kr_X (kr_V fun w1 hw1 => ?_)) (kx_X fun E1 w1 hx1 => ?_)
  · obtain ⟨hq1, hp1⟩ := hw1
    obtain rfl := hq1.symm
    obtain ⟨b1, hb1, rfl⟩ := hp1
    refine J_aload_n (pc := 4) dX6_goes_4 rfl rfl rfl ?_
    refine J_iload_n (pc := 5) dX6_goes_5 rfl rfl ?_
    refine J_callV (pc := 6) (M := mX6_goes) (as := [.int p1]) dX6_goes_6 fw_X6_needPoint fl_X6_86 fm_X6_needPoint fe_X6_needPoint h0 (by decide) rfl rfl rfl (c_X6_needPoint_att hs (d := d - 1) (by omega) (n := n) (e := e) (r := r) (q := q) hn1 hn2 h0 (w := w) p1 (kc := 1) (ks := 6) (Nat.le_refl _) (Nat.le_refl _)) (by omega) (by omega) (by omega) (st := []) (Nat.le_of_ble_eq_true rfl) rfl (kr_X (kr_V fun w2 hw2 => ?_)) (kx_X fun E2 w2 hx2 => ?_)
    · obtain ⟨hq2, hp2⟩ := hw2
      obtain rfl := hq2.symm
      obtain ⟨b2, hb2, rfl⟩ := hp2
      refine J_aload_n (pc := 9) dX6_goes_9 rfl rfl rfl ?_
      refine J_get (pc := 10) (k := 0) dX6_goes_10 kC7 (by decide) ff_X6_9 h0 rfl ?_
      refine J_iload_n (pc := 13) dX6_goes_13 rfl rfl ?_
      refine J_ialdF (pc := 14) dX6_goes_14 h1 (by omega) (by decide) ?_
      refine J_iload_n (pc := 15) dX6_goes_15 rfl rfl ?_
      refine J_callS0 (pc := 16) (M := mX6_goes) (as := [.int (nI (cm b1)), .int (nI b2)]) dX6_goes_16 fw_X2_goal fl_X6_144 fs_X2_goal rfl (c_X2_goal_atx hs (d := d - 1) (by omega) (w := w) (cm b1) b2 (by exact (hcm _ hb1).1) (by omega) (kc := 0) (ks := 0)) (by omega) (st := []) (Nat.le_of_ble_eq_true rfl) rfl (kr_P fun v3 hv3 => ?_) kx_I
      subst hv3
      have hq4 := d8_lt (cm b1) b2
      exact J_iret (pc := 19) dX6_goes_19 rfl (⟨b1, b2, rfl, rfl, hb1, hb2, (by rfl), ⟨h0, h1⟩, hG⟩)
    · exact JX_out (fun _ h => nomatch h) (by obtain ⟨h1x, h2x, h3x⟩ := hx2; exact ⟨⟨h1x, fun g => ne_isN h3x g.2⟩, h2x⟩)
  · exact JX_out (fun _ h => nomatch h) (by obtain ⟨h1x, h2x, h3x⟩ := hx1; exact ⟨⟨h1x, fun g => ne_isN h3x g.1⟩, h2x⟩)
set_option maxRecDepth 100000 in
set_option maxHeartbeats 4000000 in
theorem c_X6_order_atx {X : jX} (hs : X.1.stackTraces = false) {d : Nat} (hd : 12 ≤ d) {n : Nat} {e r q : Int32} {cm : Nat → Nat} {w : List jC} (hH : HX n e r q cm w) (hn1 : 2 ≤ n) (hn2 : n ≤ 7) (hcm : ∀ c, c < 6 → Mv n (cm c)) (p0 : Int32) {kc ks : Nat} (hkc : 1 ≤ kc) (hks : 6 ≤ ks) : jMet X mX6_order d kc ks [.ref 0, .int p0] w (pX (pJ (fun v w' => ∃ a : Nat, p0 = nI a ∧ a < 6 ∧ v = nI (oC (cm a)) ∧ HX n e r q cm w' ∧ FH w w')) (fun E w' => ((E = "java/lang/IndexOutOfBoundsException" ∧ ¬ (isN p0 6))) ∧ w' = w ++ [.inr (99, [])])) := by
  refine jMet_of hs (by decide +kernel) (Nat.le_of_ble_eq_true rfl) (L := [some (.ref 0), some (.int p0)]) rfl ?_
  obtain ⟨h0, h1⟩ := hH
  have hG : FH w w := FH.rf
  refine J_iload_n (pc := 0) dX6_order_0 rfl rfl ?_
  refine J_callS (pc := 1) (M := mX6_order) (as := [.int p0]) dX6_order_1 fw_X6_needCell fl_X6_67 fs_X6_needCell rfl (c_X6_needCell_att hs (d := d - 1) (by omega) (w := w) p0 (kc := 1) (ks := 6) (Nat.le_refl _) (Nat.le_refl _)) (by omega) (by omega) (by omega) (st := []) (Nat.le_of_ble_eq_true rfl) rfl (kr_X (kr_V fun w1 hw1 => ?_)) (kx_X fun E1 w1 hx1 => ?_)
  · obtain ⟨hq1, hp1⟩ := hw1
    obtain rfl := hq1.symm
    obtain ⟨b1, hb1, rfl⟩ := hp1
    refine J_aload_n (pc := 4) dX6_order_4 rfl rfl rfl ?_
    refine J_get (pc := 5) (k := 0) dX6_order_5 kC7 (by decide) ff_X6_9 h0 rfl ?_
    refine J_iload_n (pc := 8) dX6_order_8 rfl rfl ?_
    refine J_ialdF (pc := 9) dX6_order_9 h1 (by omega) (by decide) ?_
    refine J_callS0 (pc := 10) (M := mX6_order) (as := [.int (nI (cm b1))]) dX6_order_10 fw_X2_orderOf fl_X6_164 fs_X2_orderOf rfl (c_X2_orderOf_atx hs (d := d - 1) (by omega) (w := w) (cm b1) (by exact (hcm _ hb1).1) (kc := 0) (ks := 0)) (by omega) (st := []) (Nat.le_of_ble_eq_true rfl) rfl (kr_P fun v2 hv2 => ?_) kx_I
    obtain ⟨k2, rfl, hk2⟩ := hv2
    have hoc := hk2.1
    exact J_iret (pc := 13) dX6_order_13 rfl (⟨b1, rfl, hb1, (by exact congrArg nI hoc), ⟨h0, h1⟩, hG⟩)
  · exact JX_out (fun _ h => nomatch h) (by obtain ⟨h1x, h2x, h3x⟩ := hx1; exact ⟨⟨h1x, fun g => ne_isN h3x g⟩, h2x⟩)
set_option maxRecDepth 100000 in
set_option maxHeartbeats 4000000 in
theorem c_X6_sign_atx {X : jX} (hs : X.1.stackTraces = false) {d : Nat} (hd : 12 ≤ d) {n : Nat} {e r q : Int32} {cm : Nat → Nat} {w : List jC} (hH : HX n e r q cm w) (hn1 : 2 ≤ n) (hn2 : n ≤ 7) (hcm : ∀ c, c < 6 → Mv n (cm c)) (p0 : Int32) {kc ks : Nat} (hkc : 1 ≤ kc) (hks : 6 ≤ ks) : jMet X mX6_sign d kc ks [.ref 0, .int p0] w (pX (pJ (fun v w' => ∃ a : Nat, p0 = nI a ∧ a < 6 ∧ v = sg n (cm a) ∧ HX n e r q cm w' ∧ FH w w')) (fun E w' => ((E = "java/lang/IndexOutOfBoundsException" ∧ ¬ (isN p0 6))) ∧ w' = w ++ [.inr (99, [])])) := by
  refine jMet_of hs (by decide +kernel) (Nat.le_of_ble_eq_true rfl) (L := [some (.ref 0), some (.int p0)]) rfl ?_
  obtain ⟨h0, h1⟩ := hH
  have hG : FH w w := FH.rf
  refine J_iload_n (pc := 0) dX6_sign_0 rfl rfl ?_
  refine J_callS (pc := 1) (M := mX6_sign) (as := [.int p0]) dX6_sign_1 fw_X6_needCell fl_X6_67 fs_X6_needCell rfl (c_X6_needCell_att hs (d := d - 1) (by omega) (w := w) p0 (kc := 1) (ks := 6) (Nat.le_refl _) (Nat.le_refl _)) (by omega) (by omega) (by omega) (st := []) (Nat.le_of_ble_eq_true rfl) rfl (kr_X (kr_V fun w1 hw1 => ?_)) (kx_X fun E1 w1 hx1 => ?_)
  · obtain ⟨hq1, hp1⟩ := hw1
    obtain rfl := hq1.symm
    obtain ⟨b1, hb1, rfl⟩ := hp1
    refine J_aload_n (pc := 4) dX6_sign_4 rfl rfl rfl ?_
    refine J_get (pc := 5) (k := 0) dX6_sign_5 kC7 (by decide) ff_X6_9 h0 rfl ?_
    refine J_iload_n (pc := 8) dX6_sign_8 rfl rfl ?_
    refine J_ialdF (pc := 9) dX6_sign_9 h1 (by omega) (by decide) ?_
    refine J_aload_n (pc := 10) dX6_sign_10 rfl rfl rfl ?_
    refine J_get (pc := 11) (k := 5) dX6_sign_11 kC7 (by decide) ff_X6_41 h0 rfl ?_
    refine J_callS0 (pc := 14) (M := mX6_sign) (as := [.int (nI (cm b1)), .int (nI n)]) dX6_sign_14 fw_X2_signOf fl_X6_167 fs_X2_signOf rfl (c_X2_signOf_atx hs (d := d - 1) (by omega) (w := w) (cm b1) n (by exact (hcm _ hb1).1) (by exact (hcm _ hb1).P7 hn2) (by exact hn2) (kc := 0) (ks := 0)) (by omega) (st := []) (Nat.le_of_ble_eq_true rfl) rfl (kr_P fun v2 hv2 => ?_) kx_I
    subst hv2
    exact J_iret (pc := 17) dX6_sign_17 rfl (⟨b1, rfl, hb1, (by exact sign_is hn2 (hcm _ hb1)), ⟨h0, h1⟩, hG⟩)
  · exact JX_out (fun _ h => nomatch h) (by obtain ⟨h1x, h2x, h3x⟩ := hx1; exact ⟨⟨h1x, fun g => ne_isN h3x g⟩, h2x⟩)
set_option maxRecDepth 100000 in
set_option maxHeartbeats 4000000 in
theorem c_X6_stays_atx {X : jX} (hs : X.1.stackTraces = false) {d : Nat} (hd : 12 ≤ d) {n : Nat} {e r q : Int32} {cm : Nat → Nat} {w : List jC} (hH : HX n e r q cm w) (hn1 : 2 ≤ n) (hn2 : n ≤ 7) (hcm : ∀ c, c < 6 → Mv n (cm c)) (p0 : Int32) {kc ks : Nat} (hkc : 1 ≤ kc) (hks : 6 ≤ ks) : jMet X mX6_stays d kc ks [.ref 0, .int p0] w (pX (pJ (fun v w' => ∃ a : Nat, p0 = nI a ∧ a < 6 ∧ v = nI (stF (d8 (cm a)) n) ∧ HX n e r q cm w' ∧ FH w w')) (fun E w' => ((E = "java/lang/IndexOutOfBoundsException" ∧ ¬ (isN p0 6))) ∧ w' = w ++ [.inr (99, [])])) := by
  refine jMet_of hs (by decide +kernel) (Nat.le_of_ble_eq_true rfl) (L := [some (.ref 0), some (.int p0), none, none]) rfl ?_
  obtain ⟨h0, h1⟩ := hH
  have hG : FH w w := FH.rf
  refine J_iload_n (pc := 0) dX6_stays_0 rfl rfl ?_
  refine J_callS (pc := 1) (M := mX6_stays) (as := [.int p0]) dX6_stays_1 fw_X6_needCell fl_X6_67 fs_X6_needCell rfl (c_X6_needCell_att hs (d := d - 1) (by omega) (w := w) p0 (kc := 1) (ks := 6) (Nat.le_refl _) (Nat.le_refl _)) (by omega) (by omega) (by omega) (st := []) (Nat.le_of_ble_eq_true rfl) rfl (kr_X (kr_V fun w1 hw1 => ?_)) (kx_X fun E1 w1 hx1 => ?_)
  · obtain ⟨hq1, hp1⟩ := hw1
    obtain rfl := hq1.symm
    obtain ⟨b1, hb1, rfl⟩ := hp1
    refine J_iconst (pc := 4) (v := nI 0) dX6_stays_4 (by decide) ?_
    refine J_istore_n (pc := 5) dX6_stays_5 rfl (by decide) rfl ?_
    show J X mX6_stays d (kc - 1) (ks - 6) 6 [some (.ref 0), some (.int (nI b1)), some (.int (nI 0)), none] [] w _
    refine J_iconst (pc := 6) (v := nI 0) dX6_stays_6 (by decide) ?_
    refine J_istore_n (pc := 7) dX6_stays_7 rfl (by decide) rfl ?_
    show J X mX6_stays d (kc - 1) (ks - 6) 8 [some (.ref 0), some (.int (nI b1)), some (.int (nI 0)), some (.int (nI 0))] [] w _
    have lp8_2 : ∀ (fuel : Nat) (c3 : Nat), (c3 ≤ n) → (n - c3 < fuel) → J X mX6_stays d (kc - 1) (ks - 6) 8 [some (.ref 0), some (.int (nI b1)), some (.int (nI (stF (d8 (cm b1)) c3))), some (.int (nI c3))] [] w (pX (pJ (fun v w' => ∃ a : Nat, (nI b1) = nI a ∧ a < 6 ∧ v = nI (stF (d8 (cm a)) n) ∧ HX n e r q cm w' ∧ FH w w')) (fun E w' => ((E = "java/lang/IndexOutOfBoundsException" ∧ ¬ (isN (nI b1) 6))) ∧ w' = w ++ [.inr (99, [])])) := by
      intro fuellp8_2
      induction fuellp8_2 with
      | zero => intros; omega
      | succ fuellp8_2 ihlp8_2 =>
        intro c3 hv8_0 hf3
        refine J_iload_n (pc := 8) dX6_stays_8 rfl rfl ?_
        refine J_aload_n (pc := 9) dX6_stays_9 rfl rfl rfl ?_
        refine J_get (pc := 10) (k := 5) dX6_stays_10 kC7 (by decide) ff_X6_41 h0 rfl ?_
        refine J_icmp_geN (pc := 13) (tgt := 42) dX6_stays_13 (by decide) (by omega) (by omega) (fun ht4 => ?_) (fun hf5 => ?_)
        · rw [show c3 = n by omega]
          refine J_iload_n (pc := 42) dX6_stays_42 rfl rfl ?_
          exact J_iret (pc := 43) dX6_stays_43 rfl (⟨b1, rfl, hb1, (by rfl), ⟨h0, h1⟩, hG⟩)
        · refine J_aload_n (pc := 16) dX6_stays_16 rfl rfl rfl ?_
          refine J_get (pc := 17) (k := 0) dX6_stays_17 kC7 (by decide) ff_X6_9 h0 rfl ?_
          refine J_iload_n (pc := 20) dX6_stays_20 rfl rfl ?_
          refine J_ialdF (pc := 21) dX6_stays_21 h1 (by omega) (by decide) ?_
          refine J_iload_n (pc := 22) dX6_stays_22 rfl rfl ?_
          refine J_callS0 (pc := 23) (M := mX6_stays) (as := [.int (nI (cm b1)), .int (nI c3)]) dX6_stays_23 fw_X2_goal fl_X6_144 fs_X2_goal rfl (c_X2_goal_atx hs (d := d - 1) (by omega) (w := w) (cm b1) c3 (by exact (hcm _ hb1).1) (by omega) (kc := 0) (ks := 0)) (by omega) (st := []) (Nat.le_of_ble_eq_true rfl) rfl (kr_P fun v6 hv6 => ?_) kx_I
          subst hv6
          have hq7 := d8_lt (cm b1) c3
          refine J_iload_n (pc := 26) dX6_stays_26 rfl rfl ?_
          refine J_icmp_neN (pc := 27) (tgt := 36) dX6_stays_27 (by decide) (by omega) (by omega) (fun ht8 => ?_) (fun hf9 => ?_)
          · refine J_iincN (pc := 36) (b := 1) dX6_stays_36 rfl (by decide) (by decide) rfl ?_
            show J X mX6_stays d (kc - 1) (ks - 6) 39 [some (.ref 0), some (.int (nI b1)), some (.int (nI (stF (d8 (cm b1)) c3))), some (.int (nI (c3 + 1)))] [] w _
            refine J_goto (pc := 39) (tgt := 8) dX6_stays_39 (by decide) ?_
            exact J_sub (L' := [some (.ref 0), some (.int (nI b1)), some (.int (nI (stF (d8 (cm b1)) (c3 + 1)))), some (.int (nI (c3 + 1)))]) ⟨rfl, ⟨rfl, ⟨(congrArg (fun z => some (Value.int (nI z))) (show stF (d8 (cm b1)) c3 = stF (d8 (cm b1)) (c3 + 1) by first | exact stF_t (by assumption) | exact stF_f (by assumption))), ⟨rfl, trivial⟩⟩⟩⟩ (ihlp8_2 (c3 + 1) (by first | assumption | omega) (by omega))
          · refine J_iload_n (pc := 30) dX6_stays_30 rfl rfl ?_
            refine J_iconst (pc := 31) (v := nI 1) dX6_stays_31 (by decide) ?_
            refine J_iload_n (pc := 32) dX6_stays_32 rfl rfl ?_
            refine J_shlOne (pc := 33) dX6_stays_33 (by omega) ?_
            refine J_iorN (pc := 34) dX6_stays_34 (by exact stF_31 _ (by omega)) (by exact Nat.pow_lt_pow_right (by decide) (by omega)) ?_
            refine J_istore_n (pc := 35) dX6_stays_35 rfl (by decide) rfl ?_
            show J X mX6_stays d (kc - 1) (ks - 6) 36 [some (.ref 0), some (.int (nI b1)), some (.int (nI ((stF (d8 (cm b1)) c3) ||| (2 ^ c3)))), some (.int (nI c3))] [] w _
            refine J_iincN (pc := 36) (b := 1) dX6_stays_36 rfl (by decide) (by decide) rfl ?_
            show J X mX6_stays d (kc - 1) (ks - 6) 39 [some (.ref 0), some (.int (nI b1)), some (.int (nI ((stF (d8 (cm b1)) c3) ||| (2 ^ c3)))), some (.int (nI (c3 + 1)))] [] w _
            refine J_goto (pc := 39) (tgt := 8) dX6_stays_39 (by decide) ?_
            exact J_sub (L' := [some (.ref 0), some (.int (nI b1)), some (.int (nI (stF (d8 (cm b1)) (c3 + 1)))), some (.int (nI (c3 + 1)))]) ⟨rfl, ⟨rfl, ⟨(congrArg (fun z => some (Value.int (nI z))) (show (stF (d8 (cm b1)) c3) ||| (2 ^ c3) = stF (d8 (cm b1)) (c3 + 1) by first | exact stF_t (by assumption) | exact stF_f (by assumption))), ⟨rfl, trivial⟩⟩⟩⟩ (ihlp8_2 (c3 + 1) (by first | assumption | omega) (by omega))
    exact J_sub (L' := [some (.ref 0), some (.int (nI b1)), some (.int (nI (stF (d8 (cm b1)) 0))), some (.int (nI 0))]) ⟨rfl, ⟨rfl, ⟨(congrArg (fun z => some (Value.int (nI z))) (show 0 = stF (d8 (cm b1)) 0 by rfl)), ⟨rfl, trivial⟩⟩⟩⟩ (lp8_2 _ 0 (by first | assumption | omega) (Nat.lt_succ_self _))
  · exact JX_out (fun _ h => nomatch h) (by obtain ⟨h1x, h2x, h3x⟩ := hx1; exact ⟨⟨h1x, fun g => ne_isN h3x g⟩, h2x⟩)
set_option maxRecDepth 100000 in
set_option maxHeartbeats 4000000 in
theorem c_X6_areAlike_atx {X : jX} (hs : X.1.stackTraces = false) {d : Nat} (hd : 12 ≤ d) {n : Nat} {e r q : Int32} {cm : Nat → Nat} {w : List jC} (hH : HX n e r q cm w) (hn1 : 2 ≤ n) (hn2 : n ≤ 7) (hcm : ∀ c, c < 6 → Mv n (cm c)) (p0 : Int32) (p1 : Int32) {kc ks : Nat} (hkc : 2 ≤ kc) (hks : 12 ≤ ks) : jMet X mX6_areAlike d kc ks [.ref 0, .int p0, .int p1] w (pX (pJ (fun v w' => ∃ a : Nat, ∃ b : Nat, p0 = nI a ∧ p1 = nI b ∧ a < 6 ∧ b < 6 ∧ v = nI (on (LK (cm a) (cm b))) ∧ HX n e r q cm w' ∧ FH w w')) (fun E w' => ((E = "java/lang/IndexOutOfBoundsException" ∧ ¬ (isN p0 6 ∧ isN p1 6))) ∧ w' = w ++ [.inr (99, [])])) := by
  refine jMet_of hs (by decide +kernel) (Nat.le_of_ble_eq_true rfl) (L := [some (.ref 0), some (.int p0), some (.int p1)]) rfl ?_
  obtain ⟨h0, h1⟩ := hH
  have hG : FH w w := FH.rf
  refine J_iload_n (pc := 0) dX6_areAlike_0 rfl rfl ?_
  refine J_callS (pc := 1) (M := mX6_areAlike) (as := [.int p0]) dX6_areAlike_1 fw_X6_needCell fl_X6_67 fs_X6_needCell rfl (c_X6_needCell_att hs (d := d - 1) (by omega) (w := w) p0 (kc := 1) (ks := 6) (Nat.le_refl _) (Nat.le_refl _)) (by omega) (by omega) (by omega) (st := []) (Nat.le_of_ble_eq_true rfl) rfl (kr_X (kr_V fun w1 hw1 => ?_)) (kx_X fun E1 w1 hx1 => ?_)
  · obtain ⟨hq1, hp1⟩ := hw1
    obtain rfl := hq1.symm
    obtain ⟨b1, hb1, rfl⟩ := hp1
    refine J_iload_n (pc := 4) dX6_areAlike_4 rfl rfl ?_
    refine J_callS (pc := 5) (M := mX6_areAlike) (as := [.int p1]) dX6_areAlike_5 fw_X6_needCell fl_X6_67 fs_X6_needCell rfl (c_X6_needCell_att hs (d := d - 1) (by omega) (w := w) p1 (kc := 1) (ks := 6) (Nat.le_refl _) (Nat.le_refl _)) (by omega) (by omega) (by omega) (st := []) (Nat.le_of_ble_eq_true rfl) rfl (kr_X (kr_V fun w2 hw2 => ?_)) (kx_X fun E2 w2 hx2 => ?_)
    · obtain ⟨hq2, hp2⟩ := hw2
      obtain rfl := hq2.symm
      obtain ⟨b2, hb2, rfl⟩ := hp2
      refine J_aload_n (pc := 8) dX6_areAlike_8 rfl rfl rfl ?_
      refine J_get (pc := 9) (k := 0) dX6_areAlike_9 kC7 (by decide) ff_X6_9 h0 rfl ?_
      refine J_iload_n (pc := 12) dX6_areAlike_12 rfl rfl ?_
      refine J_ialdF (pc := 13) dX6_areAlike_13 h1 (by omega) (by decide) ?_
      refine J_aload_n (pc := 14) dX6_areAlike_14 rfl rfl rfl ?_
      refine J_get (pc := 15) (k := 0) dX6_areAlike_15 kC7 (by decide) ff_X6_9 h0 rfl ?_
      refine J_iload_n (pc := 18) dX6_areAlike_18 rfl rfl ?_
      refine J_ialdF (pc := 19) dX6_areAlike_19 h1 (by omega) (by decide) ?_
      refine J_callS0 (pc := 20) (M := mX6_areAlike) (as := [.int (nI (cm b1)), .int (nI (cm b2))]) dX6_areAlike_20 fw_X2_haveLikeRings fl_X6_120 fs_X2_haveLikeRings rfl (c_X2_haveLikeRings_atx hs (d := d - 1) (by omega) (w := w) (cm b1) (cm b2) (by exact (hcm _ hb1).1) (by exact (hcm _ hb2).1) (by exact (hcm _ hb1).P7 hn2) (by exact (hcm _ hb2).P7 hn2) (kc := 0) (ks := 0)) (by omega) (st := []) (Nat.le_of_ble_eq_true rfl) rfl (kr_P fun v3 hv3 => ?_) kx_I
      rcases hv3 with ⟨rfl, hk3_0⟩ | ⟨rfl, hk3_0⟩
      · exact J_zret (pc := 23) dX6_areAlike_23 rfl (nar_b (by first | decide | omega)) (⟨b1, b2, rfl, rfl, hb1, hb2, (by first | exact congrArg nI (on_f (by assumption)).symm | exact congrArg nI (on_t (by assumption)).symm), ⟨h0, h1⟩, hG⟩)
      · exact J_zret (pc := 23) dX6_areAlike_23 rfl (nar_b (by first | decide | omega)) (⟨b1, b2, rfl, rfl, hb1, hb2, (by first | exact congrArg nI (on_f (by assumption)).symm | exact congrArg nI (on_t (by assumption)).symm), ⟨h0, h1⟩, hG⟩)
    · exact JX_out (fun _ h => nomatch h) (by obtain ⟨h1x, h2x, h3x⟩ := hx2; exact ⟨⟨h1x, fun g => ne_isN h3x g.2⟩, h2x⟩)
  · exact JX_out (fun _ h => nomatch h) (by obtain ⟨h1x, h2x, h3x⟩ := hx1; exact ⟨⟨h1x, fun g => ne_isN h3x g.1⟩, h2x⟩)
set_option maxRecDepth 100000 in
set_option maxHeartbeats 4000000 in
theorem c_X6_commute_atx {X : jX} (hs : X.1.stackTraces = false) {d : Nat} (hd : 12 ≤ d) {n : Nat} {e r q : Int32} {cm : Nat → Nat} {w : List jC} (hH : HX n e r q cm w) (hn1 : 2 ≤ n) (hn2 : n ≤ 7) (hcm : ∀ c, c < 6 → Mv n (cm c)) (p0 : Int32) (p1 : Int32) {kc ks : Nat} (hkc : 2 ≤ kc) (hks : 12 ≤ ks) : jMet X mX6_commute d kc ks [.ref 0, .int p0, .int p1] w (pX (pJ (fun v w' => ∃ a : Nat, ∃ b : Nat, p0 = nI a ∧ p1 = nI b ∧ a < 6 ∧ b < 6 ∧ v = (if c7 (cm a) (cm b) = c7 (cm b) (cm a) then nI 1 else nI 0) ∧ HX n e r q cm w' ∧ FH w w')) (fun E w' => ((E = "java/lang/IndexOutOfBoundsException" ∧ ¬ (isN p0 6 ∧ isN p1 6))) ∧ w' = w ++ [.inr (99, [])])) := by
  refine jMet_of hs (by decide +kernel) (Nat.le_of_ble_eq_true rfl) (L := [some (.ref 0), some (.int p0), some (.int p1)]) rfl ?_
  obtain ⟨h0, h1⟩ := hH
  have hG : FH w w := FH.rf
  refine J_iload_n (pc := 0) dX6_commute_0 rfl rfl ?_
  refine J_callS (pc := 1) (M := mX6_commute) (as := [.int p0]) dX6_commute_1 fw_X6_needCell fl_X6_67 fs_X6_needCell rfl (c_X6_needCell_att hs (d := d - 1) (by omega) (w := w) p0 (kc := 1) (ks := 6) (Nat.le_refl _) (Nat.le_refl _)) (by omega) (by omega) (by omega) (st := []) (Nat.le_of_ble_eq_true rfl) rfl (kr_X (kr_V fun w1 hw1 => ?_)) (kx_X fun E1 w1 hx1 => ?_)
  · obtain ⟨hq1, hp1⟩ := hw1
    obtain rfl := hq1.symm
    obtain ⟨b1, hb1, rfl⟩ := hp1
    refine J_iload_n (pc := 4) dX6_commute_4 rfl rfl ?_
    refine J_callS (pc := 5) (M := mX6_commute) (as := [.int p1]) dX6_commute_5 fw_X6_needCell fl_X6_67 fs_X6_needCell rfl (c_X6_needCell_att hs (d := d - 1) (by omega) (w := w) p1 (kc := 1) (ks := 6) (Nat.le_refl _) (Nat.le_refl _)) (by omega) (by omega) (by omega) (st := []) (Nat.le_of_ble_eq_true rfl) rfl (kr_X (kr_V fun w2 hw2 => ?_)) (kx_X fun E2 w2 hx2 => ?_)
    · obtain ⟨hq2, hp2⟩ := hw2
      obtain rfl := hq2.symm
      obtain ⟨b2, hb2, rfl⟩ := hp2
      refine J_aload_n (pc := 8) dX6_commute_8 rfl rfl rfl ?_
      refine J_get (pc := 9) (k := 0) dX6_commute_9 kC7 (by decide) ff_X6_9 h0 rfl ?_
      refine J_iload_n (pc := 12) dX6_commute_12 rfl rfl ?_
      refine J_ialdF (pc := 13) dX6_commute_13 h1 (by omega) (by decide) ?_
      refine J_aload_n (pc := 14) dX6_commute_14 rfl rfl rfl ?_
      refine J_get (pc := 15) (k := 0) dX6_commute_15 kC7 (by decide) ff_X6_9 h0 rfl ?_
      refine J_iload_n (pc := 18) dX6_commute_18 rfl rfl ?_
      refine J_ialdF (pc := 19) dX6_commute_19 h1 (by omega) (by decide) ?_
      refine J_callS0 (pc := 20) (M := mX6_commute) (as := [.int (nI (cm b1)), .int (nI (cm b2))]) dX6_commute_20 fw_X2_both fl_X6_93 fs_X2_both rfl (c_X2_both_atx hs (d := d - 1) (by omega) (w := w) (cm b1) (cm b2) (by exact (hcm _ hb1).1) (by exact (hcm _ hb2).1) (kc := 0) (ks := 0)) (by omega) (st := []) (Nat.le_of_ble_eq_true rfl) rfl (kr_P fun v3 hv3 => ?_) kx_I
      subst hv3
      refine J_aload_n (pc := 23) dX6_commute_23 rfl rfl rfl ?_
      refine J_get (pc := 24) (k := 0) dX6_commute_24 kC7 (by decide) ff_X6_9 h0 rfl ?_
      refine J_iload_n (pc := 27) dX6_commute_27 rfl rfl ?_
      refine J_ialdF (pc := 28) dX6_commute_28 h1 (by omega) (by decide) ?_
      refine J_aload_n (pc := 29) dX6_commute_29 rfl rfl rfl ?_
      refine J_get (pc := 30) (k := 0) dX6_commute_30 kC7 (by decide) ff_X6_9 h0 rfl ?_
      refine J_iload_n (pc := 33) dX6_commute_33 rfl rfl ?_
      refine J_ialdF (pc := 34) dX6_commute_34 h1 (by omega) (by decide) ?_
      refine J_callS0 (pc := 35) (M := mX6_commute) (as := [.int (nI (cm b2)), .int (nI (cm b1))]) dX6_commute_35 fw_X2_both fl_X6_93 fs_X2_both rfl (c_X2_both_atx hs (d := d - 1) (by omega) (w := w) (cm b2) (cm b1) (by exact (hcm _ hb2).1) (by exact (hcm _ hb1).1) (kc := 0) (ks := 0)) (by omega) (st := [.int (nI (c7 (cm b1) (cm b2)))]) (Nat.le_of_ble_eq_true rfl) rfl (kr_P fun v4 hv4 => ?_) kx_I
      subst hv4
      have hcl1 := lt31 (c7_lt (cm b1) (cm b2))
      have hcl2 := lt31 (c7_lt (cm b2) (cm b1))
      refine J_icmp_neN (pc := 38) (tgt := 45) dX6_commute_38 (by decide) (by omega) (by omega) (fun ht5 => ?_) (fun hf6 => ?_)
      · refine J_iconst (pc := 45) (v := nI 0) dX6_commute_45 (by decide) ?_
        exact J_zret (pc := 46) dX6_commute_46 rfl (nar_b (by first | decide | omega)) (⟨b1, b2, rfl, rfl, hb1, hb2, (by first | exact (if_pos (by assumption)).symm | exact (if_neg (by assumption)).symm), ⟨h0, h1⟩, hG⟩)
      · refine J_iconst (pc := 41) (v := nI 1) dX6_commute_41 (by decide) ?_
        refine J_goto (pc := 42) (tgt := 46) dX6_commute_42 (by decide) ?_
        exact J_zret (pc := 46) dX6_commute_46 rfl (nar_b (by first | decide | omega)) (⟨b1, b2, rfl, rfl, hb1, hb2, (by first | exact (if_pos (by assumption)).symm | exact (if_neg (by assumption)).symm), ⟨h0, h1⟩, hG⟩)
    · exact JX_out (fun _ h => nomatch h) (by obtain ⟨h1x, h2x, h3x⟩ := hx2; exact ⟨⟨h1x, fun g => ne_isN h3x g.2⟩, h2x⟩)
  · exact JX_out (fun _ h => nomatch h) (by obtain ⟨h1x, h2x, h3x⟩ := hx1; exact ⟨⟨h1x, fun g => ne_isN h3x g.1⟩, h2x⟩)
set_option maxRecDepth 100000 in
set_option maxHeartbeats 4000000 in
theorem c_X6_house_atx {X : jX} (hs : X.1.stackTraces = false) {d : Nat} (hd : 13 ≤ d) {n : Nat} {e r q : Int32} {cm : Nat → Nat} {w : List jC} (hH : HX n e r q cm w) (hn1 : 2 ≤ n) (hn2 : n ≤ 7) (hcm : ∀ c, c < 6 → Mv n (cm c)) (p0 : Int32) {kc ks : Nat} (hkc : 1 ≤ kc) (hks : 6 ≤ ks) : jMet X mX6_house d kc ks [.ref 0, .int p0] w (pX (pJ (fun v w' => ∃ a : Nat, p0 = nI a ∧ a < 3 ∧ v = (if a = 0 then e else if a = 1 then r else q) ∧ HX n e r q cm w' ∧ FH w w')) (fun E w' => ((E = "java/lang/IllegalArgumentException" ∧ ¬ (isN p0 3))) ∧ w' = w ++ [.inr (99, [])])) := by
  refine jMet_of hs (by decide +kernel) (Nat.le_of_ble_eq_true rfl) (L := [some (.ref 0), some (.int p0)]) rfl ?_
  obtain ⟨h0, h1⟩ := hH
  have hG : FH w w := FH.rf
  refine J_iload_n (pc := 0) dX6_house_0 rfl rfl ?_
  refine J_iconst (pc := 1) (v := nI 0) dX6_house_1 (by decide) ?_
  refine J_iconst (pc := 2) (v := nI 2) dX6_house_2 (by decide) ?_
  refine J_callS (pc := 3) (M := mX6_house) (as := [.int p0, .int (nI 0), .int (nI 2)]) dX6_house_3 fw_X6_needBetween fl_X6_63 fs_X6_needBetween rfl (c_X6_needBetween_att hs (d := d - 1) (by omega) (w := w) p0 (nI 0) (nI 2) (kc := 1) (ks := 6) (Nat.le_refl _) (Nat.le_refl _)) (by omega) (by omega) (by omega) (st := []) (Nat.le_of_ble_eq_true rfl) rfl (kr_X (kr_V fun w1 hw1 => ?_)) (kx_X fun E1 w1 hx1 => ?_)
  · obtain ⟨hq1, hp1⟩ := hw1
    obtain rfl := hq1.symm
    have hbt := hp1
    obtain ⟨b9, hb9, hb9z, rfl⟩ := nI_btw hbt.1 hbt.2 (by omega) (by omega)
    refine J_iload_n (pc := 6) dX6_house_6 rfl rfl ?_
    refine J_if_neN (pc := 7) (tgt := 15) dX6_house_7 (by decide) (by omega) (fun ht2 => ?_) (fun hf3 => ?_)
    · refine J_iload_n (pc := 15) dX6_house_15 rfl rfl ?_
      refine J_iconst (pc := 16) (v := nI 1) dX6_house_16 (by decide) ?_
      refine J_icmp_neN (pc := 17) (tgt := 27) dX6_house_17 (by decide) (by omega) (by omega) (fun ht4 => ?_) (fun hf5 => ?_)
      · refine J_aload_n (pc := 27) dX6_house_27 rfl rfl rfl ?_
        refine J_get (pc := 28) (k := 8) dX6_house_28 kC7 (by decide) ff_X6_51 h0 rfl ?_
        exact J_iret (pc := 31) dX6_house_31 rfl (⟨b9, rfl, (show b9 < 3 by omega), (by first | exact (if_pos (by omega)).symm | exact ((if_neg (by omega)).trans (if_pos (by omega))).symm | exact ((if_neg (by omega)).trans (if_neg (by omega))).symm), ⟨h0, h1⟩, hG⟩)
      · refine J_aload_n (pc := 20) dX6_house_20 rfl rfl rfl ?_
        refine J_get (pc := 21) (k := 7) dX6_house_21 kC7 (by decide) ff_X6_48 h0 rfl ?_
        refine J_goto (pc := 24) (tgt := 31) dX6_house_24 (by decide) ?_
        exact J_iret (pc := 31) dX6_house_31 rfl (⟨b9, rfl, (show b9 < 3 by omega), (by first | exact (if_pos (by omega)).symm | exact ((if_neg (by omega)).trans (if_pos (by omega))).symm | exact ((if_neg (by omega)).trans (if_neg (by omega))).symm), ⟨h0, h1⟩, hG⟩)
    · refine J_aload_n (pc := 10) dX6_house_10 rfl rfl rfl ?_
      refine J_get (pc := 11) (k := 6) dX6_house_11 kC7 (by decide) ff_X6_45 h0 rfl ?_
      exact J_iret (pc := 14) dX6_house_14 rfl (⟨b9, rfl, (show b9 < 3 by omega), (by first | exact (if_pos (by omega)).symm | exact ((if_neg (by omega)).trans (if_pos (by omega))).symm | exact ((if_neg (by omega)).trans (if_neg (by omega))).symm), ⟨h0, h1⟩, hG⟩)
  · exact JX_out (fun _ h => nomatch h) (by obtain ⟨h1x, h2x, h3x⟩ := hx1; exact ⟨⟨h1x, lay_no (by decide) (by decide) h3x⟩, h2x⟩)
end
section
/-! exact contracts of the class: espec7 -/
set_option maxRecDepth 100000 in
set_option maxHeartbeats 4000000 in
theorem c_X0_takenCells_atx {X : jX} (hs : X.1.stackTraces = false) {d : Nat} (hd : 0 ≤ d) {st sv rc sz kw : Nat → Nat} {ns tk ro nn : Nat} {w : List jC} (hR : CM st sv rc sz kw ns tk ro nn w) {kc ks : Nat} : jMet X mX0_takenCells d kc ks [.ref 2] w (pI (fun v => v = nI tk) (fun w' => w' = w)) := by
  refine jMet_of hs (by decide +kernel) (Nat.le_of_ble_eq_true rfl) (L := [some (.ref 2)]) rfl ?_
  obtain ⟨h2, h3, h4, h5, h6, h7⟩ := hR
  have hF : FC w w := FC.rf
  refine J_aload_n (pc := 0) dX0_takenCells_0 rfl rfl rfl ?_
  refine J_get (pc := 1) (k := 6) dX0_takenCells_1 kC2 (by decide) ff_X0_31 h2 rfl ?_
  exact J_iret (pc := 4) dX0_takenCells_4 rfl ⟨rfl, rfl⟩
set_option maxRecDepth 100000 in
set_option maxHeartbeats 4000000 in
theorem c_X0_reachAt_atx {X : jX} (hs : X.1.stackTraces = false) {d : Nat} (hd : 0 ≤ d) {st sv rc sz kw : Nat → Nat} {ns tk ro nn : Nat} {w : List jC} (hR : CM st sv rc sz kw ns tk ro nn w) (l : Nat) (hy0 : l < nn) (hy1 : nn ≤ 7) {kc ks : Nat} : jMet X mX0_reachAt d kc ks [.ref 2, .int (nI l)] w (pI (fun v => v = nI (rc l)) (fun w' => w' = w)) := by
  refine jMet_of hs (by decide +kernel) (Nat.le_of_ble_eq_true rfl) (L := [some (.ref 2), some (.int (nI l))]) rfl ?_
  obtain ⟨h2, h3, h4, h5, h6, h7⟩ := hR
  have hF : FC w w := FC.rf
  refine J_iload_n (pc := 0) dX0_reachAt_0 rfl rfl ?_
  refine J_if_ltN (pc := 1) (tgt := 12) dX0_reachAt_1 (by decide) (by omega) (fun hf2 => ?_)
  refine J_iload_n (pc := 4) dX0_reachAt_4 rfl rfl ?_
  refine J_aload_n (pc := 5) dX0_reachAt_5 rfl rfl rfl ?_
  refine J_get (pc := 6) (k := 8) dX0_reachAt_6 kC2 (by decide) ff_X0_38 h2 rfl ?_
  refine J_icmp_ltN (pc := 9) (tgt := 16) dX0_reachAt_9 (by decide) (by omega) (by omega) (fun ht3 => ?_) (fun hf4 => ?_)
  · refine J_aload_n (pc := 16) dX0_reachAt_16 rfl rfl rfl ?_
    refine J_get (pc := 17) (k := 2) dX0_reachAt_17 kC2 (by decide) ff_X0_18 h2 rfl ?_
    refine J_iload_n (pc := 20) dX0_reachAt_20 rfl rfl ?_
    refine J_ialdF (pc := 21) dX0_reachAt_21 h5 (by omega) (by decide) ?_
    exact J_iret (pc := 22) dX0_reachAt_22 rfl ⟨rfl, rfl⟩
  · exact absurd hy0 (by omega)
set_option maxRecDepth 100000 in
set_option maxHeartbeats 4000000 in
theorem c_X0_rankOf_atx {X : jX} (hs : X.1.stackTraces = false) {d : Nat} (hd : 2 ≤ d) {st sv rc sz kw : Nat → Nat} {ns tk ro nn : Nat} {w : List jC} (hR : CM st sv rc sz kw ns tk ro nn w) (x : Nat) (hy0 : 1 ≤ nn) (hy1 : nn ≤ 7) (hy2 : CI nn ro st sv rc kw ns) (hy3 : PQ nn rc st kw ns) (hy4 : ∀ l, l ≤ nn → sz l = zF rc nn (nn - l)) (hy5 : Mv nn x) {kc ks : Nat} : jMet X mX0_rankOf d kc ks [.ref 2, .int (nI x)] w (pI (fun v => RKV (CP nn (RC rc) (ST st) nn x) (rkS nn (TL nn rc st 1754760) (d8 ro) x nn) v) (fun w' => w' = w)) := by
  refine jMet_of hs (by decide +kernel) (Nat.le_of_ble_eq_true rfl) (L := [some (.ref 2), some (.int (nI x)), none, none, none, none, none]) rfl ?_
  have hdm : 1 ≤ d - 1 := by omega
  have hdp : d - 1 + 1 ≤ d := by omega
  obtain ⟨h2, h3, h4, h5, h6, h7⟩ := hR
  have hF : FC w w := FC.rf
  have hro := hy2.1
  have hz5 := zF_5040 hy0 hy1 hy2 (Nat.le_refl nn)
  refine J_iconst (pc := 0) (v := nI 0) dX0_rankOf_0 (by decide) ?_
  refine J_istore_n (pc := 1) dX0_rankOf_1 rfl (by decide) rfl ?_
  show J X mX0_rankOf d kc ks 2 [some (.ref 2), some (.int (nI x)), some (.int (nI 0)), none, none, none, none] [] w _
  refine J_ldc (pc := 2) (v := nI 1754760) dX0_rankOf_2 (by have := fk_X0_34; exact this) ?_
  refine J_istore_n (pc := 4) dX0_rankOf_4 rfl (by decide) rfl ?_
  show J X mX0_rankOf d kc ks 5 [some (.ref 2), some (.int (nI x)), some (.int (nI 0)), some (.int (nI 1754760)), none, none, none] [] w _
  refine J_iconst (pc := 5) (v := nI 0) dX0_rankOf_5 (by decide) ?_
  refine J_istore (pc := 6) dX0_rankOf_6 (by decide) rfl ?_
  show J X mX0_rankOf d kc ks 8 [some (.ref 2), some (.int (nI x)), some (.int (nI 0)), some (.int (nI 1754760)), some (.int (nI 0)), none, none] [] w _
  have lp8_1 : ∀ (fuel : Nat) (y2 : Nat) (y3 : Nat) (c4 : Nat), (RK nn ro rc st x c4 y2 y3) → (c4 ≤ nn) → (nn - c4 < fuel) → J X mX0_rankOf d kc ks 8 [some (.ref 2), some (.int (nI x)), some (.int (nI y2)), some (.int (nI y3)), some (.int (nI c4)), none, none] [] w (pI (fun v => RKV (CP nn (RC rc) (ST st) nn x) (rkS nn (TL nn rc st 1754760) (d8 ro) x nn) v) (fun w' => w' = w)) := by
    intro fuellp8_1
    induction fuellp8_1 with
    | zero => intros; omega
    | succ fuellp8_1 ihlp8_1 =>
      intro y2 y3 c4 hv8_0 hv8_1 hf2
      refine J_iload (pc := 8) dX0_rankOf_8 rfl ?_
      refine J_aload_n (pc := 10) dX0_rankOf_10 rfl rfl rfl ?_
      refine J_get (pc := 11) (k := 8) dX0_rankOf_11 kC2 (by decide) ff_X0_38 h2 rfl ?_
      refine J_icmp_geN (pc := 14) (tgt := 104) dX0_rankOf_14 (by decide) (by omega) (by omega) (fun ht3 => ?_) (fun hf4 => ?_)
      · refine J_iload_n (pc := 104) dX0_rankOf_104 rfl rfl ?_
        exact J_iret (pc := 105) dX0_rankOf_105 rfl ⟨(by first | exact Or.inr ⟨RK_no hy0 hy1 hy2 hy3 hy5 (by omega) hv8_0 hg2 (by assumption), rfl⟩ | exact Or.inl ⟨(RK_n hy1 hy2 hy5 (by omega) hv8_0).1, congrArg nI (RK_n hy1 hy2 hy5 (by omega) hv8_0).2, by rw [← (RK_n hy1 hy2 hy5 (by omega) hv8_0).2]; have := hv8_0.2.2.2.2; omega⟩), rfl⟩
      · have h31 := hy2.2.2.2.2.2.2.2 c4 (by omega)
        have hr1 := hro.2.1.1 c4 (by omega)
        have hr2 := hy5.2.1.1 _ hr1
        have hsz := hy4 (c4 + 1) (by omega)
        have hz4 := zF_5040 hy0 hy1 hy2 (show nn - (c4 + 1) ≤ nn by omega)
        have h8b := hv8_0.2.2.2.2
        refine J_iload_n (pc := 17) dX0_rankOf_17 rfl rfl ?_
        refine J_aload_n (pc := 18) dX0_rankOf_18 rfl rfl rfl ?_
        refine J_get (pc := 19) (k := 2) dX0_rankOf_19 kC2 (by decide) ff_X0_18 h2 rfl ?_
        refine J_iload (pc := 22) dX0_rankOf_22 rfl ?_
        refine J_ialdF (pc := 24) dX0_rankOf_24 h5 (by omega) (by decide) ?_
        refine J_callS0 (pc := 25) (M := mX0_rankOf) (as := [.int (nI y3), .int (nI (rc c4))]) dX0_rankOf_25 fw_X2_goals fl_X0_71 fs_X2_goals rfl (c_X2_goals_atx hs (d := d - 1) (Nat.le_trans (by decide) hdm) (w := w) y3 (rc c4) (by exact hv8_0.1.1) (by exact h31) (kc := 0) (ks := 0)) hdp (st := []) (Nat.le_of_ble_eq_true rfl) rfl (kr_P fun v5 hv5 => ?_) kx_I
        obtain ⟨k5, rfl, hk5⟩ := hv5
        obtain ⟨hg1, hg2⟩ := hk5
        refine J_istore (pc := 28) dX0_rankOf_28 (by decide) rfl ?_
        show J X mX0_rankOf d kc ks 30 [some (.ref 2), some (.int (nI x)), some (.int (nI y2)), some (.int (nI y3)), some (.int (nI c4)), some (.int (nI k5)), none] [] w _
        refine J_iload_n (pc := 30) dX0_rankOf_30 rfl rfl ?_
        refine J_aload_n (pc := 31) dX0_rankOf_31 rfl rfl rfl ?_
        refine J_get (pc := 32) (k := 7) dX0_rankOf_32 kC2 (by decide) ff_X0_35 h2 rfl ?_
        refine J_iload (pc := 35) dX0_rankOf_35 rfl ?_
        refine J_callS0 (pc := 37) (M := mX0_rankOf) (as := [.int (nI ro), .int (nI c4)]) dX0_rankOf_37 fw_X2_goal fl_X0_41 fs_X2_goal rfl (c_X2_goal_atx hs (d := d - 1) (Nat.le_trans (by decide) hdm) (w := w) ro c4 (by exact hro.1) (by omega) (kc := 0) (ks := 0)) hdp (st := [.int (nI x)]) (Nat.le_of_ble_eq_true rfl) rfl (kr_P fun v6 hv6 => ?_) kx_I
        subst hv6
        have hq7 := d8_lt ro c4
        refine J_callS0 (pc := 40) (M := mX0_rankOf) (as := [.int (nI x), .int (nI (d8 ro c4))]) dX0_rankOf_40 fw_X2_goal fl_X0_41 fs_X2_goal rfl (c_X2_goal_atx hs (d := d - 1) (Nat.le_trans (by decide) hdm) (w := w) x (d8 ro c4) (by exact hy5.1) (by omega) (kc := 0) (ks := 0)) hdp (st := []) (Nat.le_of_ble_eq_true rfl) rfl (kr_P fun v8 hv8 => ?_) kx_I
        subst hv8
        have hq9 := d8_lt x (d8 ro c4)
        refine J_istore (pc := 43) dX0_rankOf_43 (by decide) rfl ?_
        show J X mX0_rankOf d kc ks 45 [some (.ref 2), some (.int (nI x)), some (.int (nI y2)), some (.int (nI y3)), some (.int (nI c4)), some (.int (nI k5)), some (.int (nI (d8 x (d8 ro c4))))] [] w _
        refine J_iload (pc := 45) dX0_rankOf_45 rfl ?_
        refine J_iload (pc := 47) dX0_rankOf_47 rfl ?_
        refine J_callSN0 (pc := 49) (M := mX0_rankOf) (as := [.int (nI k5), .int (nI (d8 x (d8 ro c4)))]) dX0_rankOf_49 fw_X6_has fl_X0_48 fs_X6_has rfl (c_X6_has_atx hs (d := d - 1) (Nat.le_trans (by decide) hdm) (w := w) k5 (d8 x (d8 ro c4)) (by omega) (by omega) (kc := 0) (ks := 0)) hdp (st := []) (Nat.le_of_ble_eq_true rfl) rfl (kr_P fun v10 hv10 => ?_) kx_I
        rcases hv10 with ⟨rfl, hk10_0⟩ | ⟨rfl, hk10_0⟩
        · refine J_if_neN (pc := 52) (tgt := 57) dX0_rankOf_52 (by decide) (by decide) (fun h => absurd h (by decide)) (fun _ => ?_)
          refine J_iconst (pc := 55) (v := (-1)) dX0_rankOf_55 (by decide) ?_
          exact J_iret (pc := 56) dX0_rankOf_56 rfl ⟨(by first | exact Or.inr ⟨RK_no hy0 hy1 hy2 hy3 hy5 (by omega) hv8_0 hg2 (by assumption), rfl⟩ | exact Or.inl ⟨(RK_n hy1 hy2 hy5 (by omega) hv8_0).1, congrArg nI (RK_n hy1 hy2 hy5 (by omega) hv8_0).2, by rw [← (RK_n hy1 hy2 hy5 (by omega) hv8_0).2]; have := hv8_0.2.2.2.2; omega⟩), rfl⟩
        · refine J_if_neN (pc := 52) (tgt := 57) dX0_rankOf_52 (by decide) (by decide) (fun _ => ?_) (fun h => absurd h (by decide))
          have hrb := RK_b hy0 hy1 hy2 (by omega) hv8_0 hg2 (by assumption) (by omega)
          have hcl := cnt_le (fun v => (k5).testBit v) (d8 x (d8 ro c4))
          refine J_iload_n (pc := 57) dX0_rankOf_57 rfl rfl ?_
          refine J_iload (pc := 58) dX0_rankOf_58 rfl ?_
          refine J_iload (pc := 60) dX0_rankOf_60 rfl ?_
          refine J_callSN0 (pc := 62) (M := mX0_rankOf) (as := [.int (nI k5), .int (nI (d8 x (d8 ro c4)))]) dX0_rankOf_62 fw_X6_howManyBelow fl_X0_74 fs_X6_howManyBelow rfl (c_X6_howManyBelow_atx hs (d := d - 1) (Nat.le_trans (by decide) hdm) (w := w) k5 (d8 x (d8 ro c4)) (by omega) (by omega) (kc := 0) (ks := 0)) hdp (st := [.int (nI y2)]) (Nat.le_of_ble_eq_true rfl) rfl (kr_P fun v11 hv11 => ?_) kx_I
          subst hv11
          refine J_aload_n (pc := 65) dX0_rankOf_65 rfl rfl rfl ?_
          refine J_get (pc := 66) (k := 3) dX0_rankOf_66 kC2 (by decide) ff_X0_21 h2 rfl ?_
          refine J_iload (pc := 69) dX0_rankOf_69 rfl ?_
          refine J_iconst (pc := 71) (v := nI 1) dX0_rankOf_71 (by decide) ?_
          refine J_iaddN (pc := 72) dX0_rankOf_72 ?_
          refine J_ialdF (pc := 73) dX0_rankOf_73 h6 (by omega) (by decide) ?_
          refine J_imulN (pc := 74) dX0_rankOf_74 ?_
          refine J_iaddN (pc := 75) dX0_rankOf_75 ?_
          refine J_istore_n (pc := 76) dX0_rankOf_76 rfl (by decide) rfl ?_
          show J X mX0_rankOf d kc ks 77 [some (.ref 2), some (.int (nI x)), some (.int (nI (y2 + ((cnt (fun i => k5.testBit i) (d8 x (d8 ro c4))) * (sz (c4 + 1)))))), some (.int (nI y3)), some (.int (nI c4)), some (.int (nI k5)), some (.int (nI (d8 x (d8 ro c4))))] [] w _
          refine J_aload_n (pc := 77) dX0_rankOf_77 rfl rfl rfl ?_
          refine J_get (pc := 78) (k := 0) dX0_rankOf_78 kC2 (by decide) ff_X0_9 h2 rfl ?_
          refine J_iload (pc := 81) dX0_rankOf_81 rfl ?_
          refine J_iload_n (pc := 83) dX0_rankOf_83 rfl rfl ?_
          refine J_iload (pc := 84) dX0_rankOf_84 rfl ?_
          refine J_callS0 (pc := 86) (M := mX0_rankOf) (as := [.int (nI y3), .int (nI (d8 x (d8 ro c4)))]) dX0_rankOf_86 fw_X2_source fl_X0_77 fs_X2_source rfl (c_X2_source_atx hs (d := d - 1) (Nat.le_trans (by decide) hdm) (w := w) y3 (d8 x (d8 ro c4)) (by exact hv8_0.1.1) (by exact MI_src hg2 (by assumption)) (kc := 0) (ks := 0)) hdp (st := [.int (nI c4), .ref 3]) (Nat.le_of_ble_eq_true rfl) rfl (kr_P fun v12 hv12 => ?_) kx_I
          obtain ⟨k12, rfl, hk12⟩ := hv12
          obtain ⟨hq1, hq2⟩ := hk12
          refine J_callS0 (pc := 89) (M := mX0_rankOf) (as := [.int (nI c4), .int (nI k12)]) dX0_rankOf_89 fw_X0_place fl_X0_45 fs_X0_place rfl (c_X0_place_atx hs (d := d - 1) (Nat.le_trans (by decide) hdm) (w := w) c4 k12 (kc := 0) (ks := 0)) hdp (st := [.ref 3]) (Nat.le_of_ble_eq_true rfl) rfl (kr_P fun v13 hv13 => ?_) kx_I
          subst hv13
          refine J_ialdF (pc := 92) dX0_rankOf_92 h3 (by omega) (by decide) ?_
          refine J_iload_n (pc := 93) dX0_rankOf_93 rfl rfl ?_
          refine J_callS0 (pc := 94) (M := mX0_rankOf) (as := [.int (nI (st (c4 * 8 + k12))), .int (nI y3)]) dX0_rankOf_94 fw_X2_both fl_X0_80 fs_X2_both rfl (c_X2_both_atx hs (d := d - 1) (Nat.le_trans (by decide) hdm) (w := w) (st (c4 * 8 + k12)) y3 (by exact RK_st hy1 hy2 (by omega) hv8_0 hg2 (by assumption) hq1 hq2) (by exact hv8_0.1.1) (kc := 0) (ks := 0)) hdp (st := []) (Nat.le_of_ble_eq_true rfl) rfl (kr_P fun v14 hv14 => ?_) kx_I
          subst hv14
          refine J_istore_n (pc := 97) dX0_rankOf_97 rfl (by decide) rfl ?_
          show J X mX0_rankOf d kc ks 98 [some (.ref 2), some (.int (nI x)), some (.int (nI (y2 + ((cnt (fun i => k5.testBit i) (d8 x (d8 ro c4))) * (sz (c4 + 1)))))), some (.int (nI (c7 (st (c4 * 8 + k12)) y3))), some (.int (nI c4)), some (.int (nI k5)), some (.int (nI (d8 x (d8 ro c4))))] [] w _
          refine J_iincN (pc := 98) (b := 1) dX0_rankOf_98 rfl (by decide) (by decide) rfl ?_
          show J X mX0_rankOf d kc ks 101 [some (.ref 2), some (.int (nI x)), some (.int (nI (y2 + ((cnt (fun i => k5.testBit i) (d8 x (d8 ro c4))) * (sz (c4 + 1)))))), some (.int (nI (c7 (st (c4 * 8 + k12)) y3))), some (.int (nI (c4 + 1))), some (.int (nI k5)), some (.int (nI (d8 x (d8 ro c4))))] [] w _
          refine J_goto (pc := 101) (tgt := 8) dX0_rankOf_101 (by decide) ?_
          exact J_sub (L' := [some (.ref 2), some (.int (nI x)), some (.int (nI (y2 + ((cnt (fun i => k5.testBit i) (d8 x (d8 ro c4))) * (sz (c4 + 1)))))), some (.int (nI (c7 (st (c4 * 8 + k12)) y3))), some (.int (nI (c4 + 1))), none, none]) ⟨rfl, ⟨rfl, ⟨rfl, ⟨rfl, ⟨rfl, trivial⟩⟩⟩⟩⟩ (ihlp8_1 (y2 + ((cnt (fun i => k5.testBit i) (d8 x (d8 ro c4))) * (sz (c4 + 1)))) (c7 (st (c4 * 8 + k12)) y3) (c4 + 1) (by rw [hsz]; exact RK_s hy0 hy1 hy2 hy3 hy5 (by omega) hv8_0 hg2 (by assumption) hq1 hq2) (by first | assumption | omega) (by omega))
  exact J_sub (L' := [some (.ref 2), some (.int (nI x)), some (.int (nI 0)), some (.int (nI 1754760)), some (.int (nI 0)), none, none]) ⟨rfl, ⟨rfl, ⟨rfl, ⟨rfl, ⟨rfl, trivial⟩⟩⟩⟩⟩ (lp8_1 _ 0 1754760 0 (by exact RK_0 hy1 hy2) (by first | assumption | omega) (Nat.lt_succ_self _))
set_option maxRecDepth 100000 in
set_option maxHeartbeats 4000000 in
theorem c_X0_holds_atx {X : jX} (hs : X.1.stackTraces = false) {d : Nat} (hd : 3 ≤ d) {st sv rc sz kw : Nat → Nat} {ns tk ro nn : Nat} {w : List jC} (hR : CM st sv rc sz kw ns tk ro nn w) (x : Nat) (hy0 : 1 ≤ nn) (hy1 : nn ≤ 7) (hy2 : CI nn ro st sv rc kw ns) (hy3 : PQ nn rc st kw ns) (hy4 : ∀ l, l ≤ nn → sz l = zF rc nn (nn - l)) (hy5 : Mv nn x) {kc ks : Nat} : jMet X mX0_holds d kc ks [.ref 2, .int (nI x)] w (pI (fun v => (v = nI 0 ∧ ¬ CP nn (RC rc) (ST st) nn x) ∨ (v = nI 1 ∧ CP nn (RC rc) (ST st) nn x)) (fun w' => w' = w)) := by
  refine jMet_of hs (by decide +kernel) (Nat.le_of_ble_eq_true rfl) (L := [some (.ref 2), some (.int (nI x))]) rfl ?_
  have hdm : 2 ≤ d - 1 := by omega
  have hdp : d - 1 + 1 ≤ d := by omega
  obtain ⟨h2, h3, h4, h5, h6, h7⟩ := hR
  have hF : FC w w := FC.rf
  refine J_aload_n (pc := 0) dX0_holds_0 rfl rfl rfl ?_
  refine J_iload_n (pc := 1) dX0_holds_1 rfl rfl ?_
  refine J_callV0 (pc := 2) (M := mX0_holds) (as := [.int (nI x)]) dX0_holds_2 fw_X0_rankOf fl_X0_64 fm_X0_rankOf fe_X0_rankOf h2 (by decide) rfl rfl rfl (c_X0_rankOf_atx hs (d := d - 1) (Nat.le_trans (by decide) hdm) (w := w) (st := st) (sv := sv) (rc := rc) (sz := sz) (kw := kw) (ns := ns) (tk := tk) (ro := ro) (nn := nn) ⟨h2, h3, h4, h5, h6, h7⟩ x (by first | assumption | omega) (by first | assumption | omega) (by first | assumption | omega) (by first | assumption | omega) (by first | assumption | omega) (by first | assumption | omega) (kc := 0) (ks := 0)) hdp (st := []) (Nat.le_of_ble_eq_true rfl) rfl (kr_P fun v1 hv1 => ?_) kx_I
  have hkv := hv1
  refine J_if_lt (pc := 5) (tgt := 12) dX0_holds_5 (by decide) (fun ht2 => ?_) (fun hf3 => ?_)
  · have hnot := RKV_lt hkv (by assumption)
    refine J_iconst (pc := 12) (v := nI 0) dX0_holds_12 (by decide) ?_
    exact J_zret (pc := 13) dX0_holds_13 rfl (nar_b (by first | decide | omega)) ⟨Or.inl ⟨rfl, (by exact hnot)⟩, rfl⟩
  · have hyes := RKV_ge hkv (by assumption)
    refine J_iconst (pc := 8) (v := nI 1) dX0_holds_8 (by decide) ?_
    refine J_goto (pc := 9) (tgt := 13) dX0_holds_9 (by decide) ?_
    exact J_zret (pc := 13) dX0_holds_13 rfl (nar_b (by first | decide | omega)) ⟨Or.inr (⟨rfl, (by exact hyes)⟩), rfl⟩
set_option maxRecDepth 100000 in
set_option maxHeartbeats 4000000 in
theorem c_X0_holdsAll_atx {X : jX} (hs : X.1.stackTraces = false) {d : Nat} (hd : 4 ≤ d) {st sv rc sz kw : Nat → Nat} {ns tk ro nn : Nat} {w : List jC} (hR : CM st sv rc sz kw ns tk ro nn w) {cm : Nat → Nat} (h1 : w[1]? = some (aF 6 cm)) (s : Nat) (hy0 : 1 ≤ nn) (hy1 : nn ≤ 7) (hy2 : CI nn ro st sv rc kw ns) (hy3 : PQ nn rc st kw ns) (hy4 : ∀ l, l ≤ nn → sz l = zF rc nn (nn - l)) (hy5 : ∀ c, c < 6 → Mv nn (cm c)) (hy6 : s < 64) {kc ks : Nat} : jMet X mX0_holdsAll d kc ks [.ref 2, .ref 1, .int (nI s)] w (pI (fun v => (v = nI 0 ∧ ¬ (∀ c, c < 6 → s.testBit c = true → CP nn (RC rc) (ST st) nn (cm c))) ∨ (v = nI 1 ∧ ∀ c, c < 6 → s.testBit c = true → CP nn (RC rc) (ST st) nn (cm c))) (fun w' => w' = w)) := by
  refine jMet_of hs (by decide +kernel) (Nat.le_of_ble_eq_true rfl) (L := [some (.ref 2), some (.ref 1), some (.int (nI s)), none]) rfl ?_
  have hdm : 3 ≤ d - 1 := by omega
  have hdp : d - 1 + 1 ≤ d := by omega
  obtain ⟨h2, h3, h4, h5, h6, h7⟩ := hR
  have hF : FC w w := FC.rf
  refine J_iconst (pc := 0) (v := nI 0) dX0_holdsAll_0 (by decide) ?_
  refine J_istore_n (pc := 1) dX0_holdsAll_1 rfl (by decide) rfl ?_
  show J X mX0_holdsAll d kc ks 2 [some (.ref 2), some (.ref 1), some (.int (nI s)), some (.int (nI 0))] [] w _
  have lp2_1 : ∀ (fuel : Nat) (c3 : Nat), (∀ c, c < c3 → s.testBit c = true → CP nn (RC rc) (ST st) nn (cm c)) → (c3 ≤ 6) → (6 - c3 < fuel) → J X mX0_holdsAll d kc ks 2 [some (.ref 2), some (.ref 1), some (.int (nI s)), some (.int (nI c3))] [] w (pI (fun v => (v = nI 0 ∧ ¬ (∀ c, c < 6 → s.testBit c = true → CP nn (RC rc) (ST st) nn (cm c))) ∨ (v = nI 1 ∧ ∀ c, c < 6 → s.testBit c = true → CP nn (RC rc) (ST st) nn (cm c))) (fun w' => w' = w)) := by
    intro fuellp2_1
    induction fuellp2_1 with
    | zero => intros; omega
    | succ fuellp2_1 ihlp2_1 =>
      intro c3 hv2_0 hv2_1 hf2
      refine J_iload_n (pc := 2) dX0_holdsAll_2 rfl rfl ?_
      refine J_aload_n (pc := 3) dX0_holdsAll_3 rfl rfl rfl ?_
      refine J_alen (pc := 4) (n := nI 6) dX0_holdsAll_4 h1 (by decide) (by rw [List.length_map, List.length_range]; rfl) ?_
      refine J_icmp_geN (pc := 5) (tgt := 34) dX0_holdsAll_5 (by decide) (by omega) (by omega) (fun ht3 => ?_) (fun hf4 => ?_)
      · refine J_iconst (pc := 34) (v := nI 1) dX0_holdsAll_34 (by decide) ?_
        exact J_zret (pc := 35) dX0_holdsAll_35 rfl (nar_b (by first | decide | omega)) ⟨Or.inr (⟨rfl, (by exact fun c hc hs => hv2_0 c (by omega) hs)⟩), rfl⟩
      · refine J_iload_n (pc := 8) dX0_holdsAll_8 rfl rfl ?_
        refine J_iload_n (pc := 9) dX0_holdsAll_9 rfl rfl ?_
        refine J_callSN0 (pc := 10) (M := mX0_holdsAll) (as := [.int (nI s), .int (nI c3)]) dX0_holdsAll_10 fw_X6_has fl_X0_48 fs_X6_has rfl (c_X6_has_atx hs (d := d - 1) (Nat.le_trans (by decide) hdm) (w := w) s c3 (by omega) (by omega) (kc := 0) (ks := 0)) hdp (st := []) (Nat.le_of_ble_eq_true rfl) rfl (kr_P fun v5 hv5 => ?_) kx_I
        rcases hv5 with ⟨rfl, hk5_0⟩ | ⟨rfl, hk5_0⟩
        · refine J_if_eqN (pc := 13) (tgt := 28) dX0_holdsAll_13 (by decide) (by decide) (fun _ => ?_) (fun h => absurd h (by decide))
          refine J_iincN (pc := 28) (b := 1) dX0_holdsAll_28 rfl (by decide) (by decide) rfl ?_
          show J X mX0_holdsAll d kc ks 31 [some (.ref 2), some (.ref 1), some (.int (nI s)), some (.int (nI (c3 + 1)))] [] w _
          refine J_goto (pc := 31) (tgt := 2) dX0_holdsAll_31 (by decide) ?_
          exact J_sub (L' := [some (.ref 2), some (.ref 1), some (.int (nI s)), some (.int (nI (c3 + 1)))]) ⟨rfl, ⟨rfl, ⟨rfl, ⟨rfl, trivial⟩⟩⟩⟩ (ihlp2_1 (c3 + 1) (by first | exact hA_s hv2_0 (fun _ => by assumption) | exact hA_s hv2_0 (fun e => absurd (e.symm.trans (show s.testBit c3 = false by assumption)) (by decide))) (by first | assumption | omega) (by omega))
        · refine J_if_eqN (pc := 13) (tgt := 28) dX0_holdsAll_13 (by decide) (by decide) (fun h => absurd h (by decide)) (fun _ => ?_)
          refine J_aload_n (pc := 16) dX0_holdsAll_16 rfl rfl rfl ?_
          refine J_aload_n (pc := 17) dX0_holdsAll_17 rfl rfl rfl ?_
          refine J_iload_n (pc := 18) dX0_holdsAll_18 rfl rfl ?_
          refine J_ialdF (pc := 19) dX0_holdsAll_19 h1 (by omega) (by decide) ?_
          refine J_callV0 (pc := 20) (M := mX0_holdsAll) (as := [.int (nI (cm c3))]) dX0_holdsAll_20 fw_X0_holds fl_X0_68 fm_X0_holds fe_X0_holds h2 (by decide) rfl rfl rfl (c_X0_holds_atx hs (d := d - 1) (Nat.le_trans (by decide) hdm) (w := w) (st := st) (sv := sv) (rc := rc) (sz := sz) (kw := kw) (ns := ns) (tk := tk) (ro := ro) (nn := nn) ⟨h2, h3, h4, h5, h6, h7⟩ (cm c3) (by first | assumption | omega) (by first | assumption | omega) (by first | assumption | omega) (by first | assumption | omega) (by first | assumption | omega) (by exact hy5 c3 (by omega)) (kc := 0) (ks := 0)) hdp (st := []) (Nat.le_of_ble_eq_true rfl) rfl (kr_P fun v6 hv6 => ?_) kx_I
          rcases hv6 with ⟨rfl, hk6_0⟩ | ⟨rfl, hk6_0⟩
          · refine J_if_neN (pc := 23) (tgt := 28) dX0_holdsAll_23 (by decide) (by decide) (fun h => absurd h (by decide)) (fun _ => ?_)
            refine J_iconst (pc := 26) (v := nI 0) dX0_holdsAll_26 (by decide) ?_
            exact J_zret (pc := 27) dX0_holdsAll_27 rfl (nar_b (by first | decide | omega)) ⟨Or.inl ⟨rfl, (by exact fun h => absurd (h c3 (by omega) (by assumption)) (by assumption))⟩, rfl⟩
          · refine J_if_neN (pc := 23) (tgt := 28) dX0_holdsAll_23 (by decide) (by decide) (fun _ => ?_) (fun h => absurd h (by decide))
            refine J_iincN (pc := 28) (b := 1) dX0_holdsAll_28 rfl (by decide) (by decide) rfl ?_
            show J X mX0_holdsAll d kc ks 31 [some (.ref 2), some (.ref 1), some (.int (nI s)), some (.int (nI (c3 + 1)))] [] w _
            refine J_goto (pc := 31) (tgt := 2) dX0_holdsAll_31 (by decide) ?_
            exact J_sub (L' := [some (.ref 2), some (.ref 1), some (.int (nI s)), some (.int (nI (c3 + 1)))]) ⟨rfl, ⟨rfl, ⟨rfl, ⟨rfl, trivial⟩⟩⟩⟩ (ihlp2_1 (c3 + 1) (by first | exact hA_s hv2_0 (fun _ => by assumption) | exact hA_s hv2_0 (fun e => absurd (e.symm.trans (show s.testBit c3 = false by assumption)) (by decide))) (by first | assumption | omega) (by omega))
  exact J_sub (L' := [some (.ref 2), some (.ref 1), some (.int (nI s)), some (.int (nI 0))]) ⟨rfl, ⟨rfl, ⟨rfl, ⟨rfl, trivial⟩⟩⟩⟩ (lp2_1 _ 0 (by exact fun c hc => absurd hc (Nat.not_lt_zero c)) (by first | assumption | omega) (Nat.lt_succ_self _))
end
