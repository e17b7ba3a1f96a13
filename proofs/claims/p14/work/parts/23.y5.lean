/-! the house's acts, exactly -/
set_option maxRecDepth 100000 in
set_option maxHeartbeats 4000000 in
theorem c_X6_number_atx {X : jX} (hs : X.1.stackTraces = false) {d : Nat} (hd : 12 ≤ d) {n : Nat} {e r q : Int32} {cm : Nat → Nat} {w : List jC} (hH : HX n e r q cm w) (hn1 : 2 ≤ n) (hn2 : n ≤ 7) (hcm : ∀ c, c < 6 → Mv n (cm c)) (p0 : Int32) {kc ks : Nat} (hkc : 1 ≤ kc) (hks : 6 ≤ ks) : jMet X mX6_number d kc ks [.ref 0, .int p0] w (pX (pJ (fun v w' => ∃ a : Nat, p0 = nI a ∧ a < 6 ∧ v = nI (nu n (cm a)) ∧ HX n e r q cm w' ∧ FH w w')) (fun E w' => ((E = "java/lang/IndexOutOfBoundsException" ∧ ¬ (isN p0 6))) ∧ w' = w ++ [.inr (99, [])])) := by
  refine jMet_of hs (by decide +kernel) (Nat.le_of_ble_eq_true rfl) (L := [some (.ref 0), some (.int p0)]) rfl ?_
  obtain ⟨h0, h1⟩ := hH
  have hG : FH w w := FH.rf
  refine J_iload_n (pc := 0) dX6_number_0 rfl rfl ?_
  refine J_callS (pc := 1) (M := mX6_number) (as := [.int p0]) dX6_number_1 fw_X6_needCell fl_X6_67 fs_X6_needCell rfl (c_X6_needCell_att hs (d := d - 1) (by omega) (w := w) p0 (kc := 1) (ks := 6) (Nat.le_refl _) (Nat.le_refl _)) (by omega) (by omega) (by omega) (st := []) (Nat.le_of_ble_eq_true rfl) rfl (kr_X (kr_V fun w1 hw1 => ?_)) (kx_X fun E1 w1 hx1 => ?_)
  · obtain ⟨hq1, hp1⟩ := hw1
    obtain rfl := hq1.symm
    obtain ⟨b1, hb1, rfl⟩ := hp1
    refine J_aload_n (pc := 4) dX6_number_4 rfl rfl rfl ?_
    refine J_get (pc := 5) (k := 0) dX6_number_5 kC7 (by decide) ff_X6_9 h0 rfl ?_
    refine J_iload_n (pc := 8) dX6_number_8 rfl rfl ?_
    refine J_ialdF (pc := 9) dX6_number_9 h1 (by omega) (by decide) ?_
    refine J_aload_n (pc := 10) dX6_number_10 rfl rfl rfl ?_
    refine J_get (pc := 11) (k := 5) dX6_number_11 kC7 (by decide) ff_X6_41 h0 rfl ?_
    refine J_callS0 (pc := 14) (M := mX6_number) (as := [.int (nI (cm b1)), .int (nI n)]) dX6_number_14 fw_X2_numberOf fl_X6_75 fs_X2_numberOf rfl (c_X2_numberOf_atx hs (d := d - 1) (by omega) (w := w) (cm b1) n (by exact (hcm _ hb1).1) (by exact hn2) (by exact (hcm _ hb1).2.1) (kc := 0) (ks := 0)) (by omega) (st := []) (Nat.le_of_ble_eq_true rfl) rfl (kr_P fun v2 hv2 => ?_) kx_I
    subst hv2
    exact J_iret (pc := 17) dX6_number_17 rfl (⟨b1, rfl, hb1, (by rfl), ⟨h0, h1⟩, hG⟩)
  · exact JX_out (fun _ h => nomatch h) (by obtain ⟨h1x, h2x, h3x⟩ := hx1; exact ⟨⟨h1x, fun g => ne_isN h3x g⟩, h2x⟩)
set_option maxRecDepth 100000 in
set_option maxHeartbeats 4000000 in
theorem c_X6_goes_atx {X : jX} (hs : X.1.stackTraces = false) {d : Nat} (hd : 12 ≤ d) {n : Nat} {e r q : Int32} {cm : Nat → Nat} {w : List jC} (hH : HX n e r q cm w) (hn1 : 2 ≤ n) (hn2 : n ≤ 7) (hcm : ∀ c, c < 6 → Mv n (cm c)) (p0 : Int32) (p1 : Int32) {kc ks : Nat} (hkc : 2 ≤ kc) (hks : 12 ≤ ks) : jMet X mX6_goes d kc ks [.ref 0, .int p0, .int p1] w (pX (pJ (fun v w' => ∃ a : Nat, ∃ b : Nat, p0 = nI a ∧ p1 = nI b ∧ a < 6 ∧ b < n ∧ v = nI (d8 (cm a) b) ∧ HX n e r q cm w' ∧ FH w w')) (fun E w' => ((E = "java/lang/IndexOutOfBoundsException" ∧ ¬ (isN p0 6 ∧ isN p1 n))) ∧ w' = w ++ [.inr (99, [])])) := by
  refine jMet_of hs (by decide +kernel) (Nat.le_of_ble_eq_true rfl) (L := [some (.ref 0), some (.int p0), some (.int p1)]) rfl ?_
  obtain ⟨h0, h1⟩ := hH
  have hG : FH w w := FH.rf
  refine J_iload_n (pc := 0) dX6_goes_0 rfl rfl ?_
  refine J_callS (pc := 1) (M := mX6_goes) (as := [.int p0]) dX6_goes_1 fw_X6_needCell fl_X6_67 fs_X6_needCell rfl (c_X6_needCell_att hs (d := d - 1) (by omega) (w := w) p0 (kc := 1) (ks := 6) (Nat.le_refl _) (Nat.le_refl _)) (by omega) (by omega) (by omega) (st := []) (Nat.le_of_ble_eq_true rfl) rfl (kr_X (kr_V fun w1 hw1 => ?_)) (kx_X fun E1 w1 hx1 => ?_)
  · obtain ⟨hq1, hp1⟩ := hw1
    obtain rfl := hq1.symm
    obtain ⟨b1, hb1, rfl⟩ := hp1
    refine J_aload_n (pc := 4) dX6_goes_4 rfl rfl rfl ?_
    refine J_iload_n (pc := 5) dX6_goes_5 rfl rfl ?_
    refine J_callV (pc := 6) (M := mX6_goes) (as := [.int p1]) dX6_goes_6 fw_X6_needPoint fl_X6_86 fm_X6_needPoint fe_X6_needPoint h0 (by decide) rfl rfl rfl (c_X6_needPoint_att hs (d := d - 1) (by omega) (n := n) (e := e) (r := r) (q := q) hn1 hn2 h0 (w := w) p1 (kc := 1) (ks := 6) (Nat.le_refl _) (Nat.le_refl _)) (by omega) (by omega) (by omega) (st := []) (Nat.le_of_ble_eq_true rfl) rfl (kr_X (kr_V fun w2 hw2 => ?_)) (kx_X fun E2 w2 hx2 => ?_)
    · obtain ⟨hq2, hp2⟩ := hw2
      obtain rfl := hq2.symm
      obtain ⟨b2, hb2, rfl⟩ := hp2
      refine J_aload_n (pc := 9) dX6_goes_9 rfl rfl rfl ?_
      refine J_get (pc := 10) (k := 0) dX6_goes_10 kC7 (by decide) ff_X6_9 h0 rfl ?_
      refine J_iload_n (pc := 13) dX6_goes_13 rfl rfl ?_
      refine J_ialdF (pc := 14) dX6_goes_14 h1 (by omega) (by decide) ?_
      refine J_iload_n (pc := 15) dX6_goes_15 rfl rfl ?_
      refine J_callS0 (pc := 16) (M := mX6_goes) (as := [.int (nI (cm b1)), .int (nI b2)]) dX6_goes_16 fw_X2_goal fl_X6_144 fs_X2_goal rfl (c_X2_goal_atx hs (d := d - 1) (by omega) (w := w) (cm b1) b2 (by exact (hcm _ hb1).1) (by omega) (kc := 0) (ks := 0)) (by omega) (st := []) (Nat.le_of_ble_eq_true rfl) rfl (kr_P fun v3 hv3 => ?_) kx_I
      subst hv3
      have hq4 := d8_lt (cm b1) b2
      exact J_iret (pc := 19) dX6_goes_19 rfl (⟨b1, b2, rfl, rfl, hb1, hb2, (by rfl), ⟨h0, h1⟩, hG⟩)
    · exact JX_out (fun _ h => nomatch h) (by obtain ⟨h1x, h2x, h3x⟩ := hx2; exact ⟨⟨h1x, fun g => ne_isN h3x g.2⟩, h2x⟩)
  · exact JX_out (fun _ h => nomatch h) (by obtain ⟨h1x, h2x, h3x⟩ := hx1; exact ⟨⟨h1x, fun g => ne_isN h3x g.1⟩, h2x⟩)
set_option maxRecDepth 100000 in
set_option maxHeartbeats 4000000 in
theorem c_X6_order_atx {X : jX} (hs : X.1.stackTraces = false) {d : Nat} (hd : 12 ≤ d) {n : Nat} {e r q : Int32} {cm : Nat → Nat} {w : List jC} (hH : HX n e r q cm w) (hn1 : 2 ≤ n) (hn2 : n ≤ 7) (hcm : ∀ c, c < 6 → Mv n (cm c)) (p0 : Int32) {kc ks : Nat} (hkc : 1 ≤ kc) (hks : 6 ≤ ks) : jMet X mX6_order d kc ks [.ref 0, .int p0] w (pX (pJ (fun v w' => ∃ a : Nat, p0 = nI a ∧ a < 6 ∧ v = nI (oC (cm a)) ∧ HX n e r q cm w' ∧ FH w w')) (fun E w' => ((E = "java/lang/IndexOutOfBoundsException" ∧ ¬ (isN p0 6))) ∧ w' = w ++ [.inr (99, [])])) := by
  refine jMet_of hs (by decide +kernel) (Nat.le_of_ble_eq_true rfl) (L := [some (.ref 0), some (.int p0)]) rfl ?_
  obtain ⟨h0, h1⟩ := hH
  have hG : FH w w := FH.rf
  refine J_iload_n (pc := 0) dX6_order_0 rfl rfl ?_
  refine J_callS (pc := 1) (M := mX6_order) (as := [.int p0]) dX6_order_1 fw_X6_needCell fl_X6_67 fs_X6_needCell rfl (c_X6_needCell_att hs (d := d - 1) (by omega) (w := w) p0 (kc := 1) (ks := 6) (Nat.le_refl _) (Nat.le_refl _)) (by omega) (by omega) (by omega) (st := []) (Nat.le_of_ble_eq_true rfl) rfl (kr_X (kr_V fun w1 hw1 => ?_)) (kx_X fun E1 w1 hx1 => ?_)
  · obtain ⟨hq1, hp1⟩ := hw1
    obtain rfl := hq1.symm
    obtain ⟨b1, hb1, rfl⟩ := hp1
    refine J_aload_n (pc := 4) dX6_order_4 rfl rfl rfl ?_
    refine J_get (pc := 5) (k := 0) dX6_order_5 kC7 (by decide) ff_X6_9 h0 rfl ?_
    refine J_iload_n (pc := 8) dX6_order_8 rfl rfl ?_
    refine J_ialdF (pc := 9) dX6_order_9 h1 (by omega) (by decide) ?_
    refine J_callS0 (pc := 10) (M := mX6_order) (as := [.int (nI (cm b1))]) dX6_order_10 fw_X2_orderOf fl_X6_164 fs_X2_orderOf rfl (c_X2_orderOf_atx hs (d := d - 1) (by omega) (w := w) (cm b1) (by exact (hcm _ hb1).1) (kc := 0) (ks := 0)) (by omega) (st := []) (Nat.le_of_ble_eq_true rfl) rfl (kr_P fun v2 hv2 => ?_) kx_I
    obtain ⟨k2, rfl, hk2⟩ := hv2
    have hoc := hk2.1
    exact J_iret (pc := 13) dX6_order_13 rfl (⟨b1, rfl, hb1, (by exact congrArg nI hoc), ⟨h0, h1⟩, hG⟩)
  · exact JX_out (fun _ h => nomatch h) (by obtain ⟨h1x, h2x, h3x⟩ := hx1; exact ⟨⟨h1x, fun g => ne_isN h3x g⟩, h2x⟩)
set_option maxRecDepth 100000 in
set_option maxHeartbeats 4000000 in
theorem c_X6_sign_atx {X : jX} (hs : X.1.stackTraces = false) {d : Nat} (hd : 12 ≤ d) {n : Nat} {e r q : Int32} {cm : Nat → Nat} {w : List jC} (hH : HX n e r q cm w) (hn1 : 2 ≤ n) (hn2 : n ≤ 7) (hcm : ∀ c, c < 6 → Mv n (cm c)) (p0 : Int32) {kc ks : Nat} (hkc : 1 ≤ kc) (hks : 6 ≤ ks) : jMet X mX6_sign d kc ks [.ref 0, .int p0] w (pX (pJ (fun v w' => ∃ a : Nat, p0 = nI a ∧ a < 6 ∧ v = sg n (cm a) ∧ HX n e r q cm w' ∧ FH w w')) (fun E w' => ((E = "java/lang/IndexOutOfBoundsException" ∧ ¬ (isN p0 6))) ∧ w' = w ++ [.inr (99, [])])) := by
  refine jMet_of hs (by decide +kernel) (Nat.le_of_ble_eq_true rfl) (L := [some (.ref 0), some (.int p0)]) rfl ?_
  obtain ⟨h0, h1⟩ := hH
  have hG : FH w w := FH.rf
  refine J_iload_n (pc := 0) dX6_sign_0 rfl rfl ?_
  refine J_callS (pc := 1) (M := mX6_sign) (as := [.int p0]) dX6_sign_1 fw_X6_needCell fl_X6_67 fs_X6_needCell rfl (c_X6_needCell_att hs (d := d - 1) (by omega) (w := w) p0 (kc := 1) (ks := 6) (Nat.le_refl _) (Nat.le_refl _)) (by omega) (by omega) (by omega) (st := []) (Nat.le_of_ble_eq_true rfl) rfl (kr_X (kr_V fun w1 hw1 => ?_)) (kx_X fun E1 w1 hx1 => ?_)
  · obtain ⟨hq1, hp1⟩ := hw1
    obtain rfl := hq1.symm
    obtain ⟨b1, hb1, rfl⟩ := hp1
    refine J_aload_n (pc := 4) dX6_sign_4 rfl rfl rfl ?_
    refine J_get (pc := 5) (k := 0) dX6_sign_5 kC7 (by decide) ff_X6_9 h0 rfl ?_
    refine J_iload_n (pc := 8) dX6_sign_8 rfl rfl ?_
    refine J_ialdF (pc := 9) dX6_sign_9 h1 (by omega) (by decide) ?_
    refine J_aload_n (pc := 10) dX6_sign_10 rfl rfl rfl ?_
    refine J_get (pc := 11) (k := 5) dX6_sign_11 kC7 (by decide) ff_X6_41 h0 rfl ?_
    refine J_callS0 (pc := 14) (M := mX6_sign) (as := [.int (nI (cm b1)), .int (nI n)]) dX6_sign_14 fw_X2_signOf fl_X6_167 fs_X2_signOf rfl (c_X2_signOf_atx hs (d := d - 1) (by omega) (w := w) (cm b1) n (by exact (hcm _ hb1).1) (by exact (hcm _ hb1).P7 hn2) (by exact hn2) (kc := 0) (ks := 0)) (by omega) (st := []) (Nat.le_of_ble_eq_true rfl) rfl (kr_P fun v2 hv2 => ?_) kx_I
    subst hv2
    exact J_iret (pc := 17) dX6_sign_17 rfl (⟨b1, rfl, hb1, (by exact sign_is hn2 (hcm _ hb1)), ⟨h0, h1⟩, hG⟩)
  · exact JX_out (fun _ h => nomatch h) (by obtain ⟨h1x, h2x, h3x⟩ := hx1; exact ⟨⟨h1x, fun g => ne_isN h3x g⟩, h2x⟩)
set_option maxRecDepth 100000 in
set_option maxHeartbeats 4000000 in
theorem c_X6_stays_atx {X : jX} (hs : X.1.stackTraces = false) {d : Nat} (hd : 12 ≤ d) {n : Nat} {e r q : Int32} {cm : Nat → Nat} {w : List jC} (hH : HX n e r q cm w) (hn1 : 2 ≤ n) (hn2 : n ≤ 7) (hcm : ∀ c, c < 6 → Mv n (cm c)) (p0 : Int32) {kc ks : Nat} (hkc : 1 ≤ kc) (hks : 6 ≤ ks) : jMet X mX6_stays d kc ks [.ref 0, .int p0] w (pX (pJ (fun v w' => ∃ a : Nat, p0 = nI a ∧ a < 6 ∧ v = nI (stF (d8 (cm a)) n) ∧ HX n e r q cm w' ∧ FH w w')) (fun E w' => ((E = "java/lang/IndexOutOfBoundsException" ∧ ¬ (isN p0 6))) ∧ w' = w ++ [.inr (99, [])])) := by
  refine jMet_of hs (by decide +kernel) (Nat.le_of_ble_eq_true rfl) (L := [some (.ref 0), some (.int p0), none, none]) rfl ?_
  obtain ⟨h0, h1⟩ := hH
  have hG : FH w w := FH.rf
  refine J_iload_n (pc := 0) dX6_stays_0 rfl rfl ?_
  refine J_callS (pc := 1) (M := mX6_stays) (as := [.int p0]) dX6_stays_1 fw_X6_needCell fl_X6_67 fs_X6_needCell rfl (c_X6_needCell_att hs (d := d - 1) (by omega) (w := w) p0 (kc := 1) (ks := 6) (Nat.le_refl _) (Nat.le_refl _)) (by omega) (by omega) (by omega) (st := []) (Nat.le_of_ble_eq_true rfl) rfl (kr_X (kr_V fun w1 hw1 => ?_)) (kx_X fun E1 w1 hx1 => ?_)
  · obtain ⟨hq1, hp1⟩ := hw1
    obtain rfl := hq1.symm
    obtain ⟨b1, hb1, rfl⟩ := hp1
    refine J_iconst (pc := 4) (v := nI 0) dX6_stays_4 (by decide) ?_
    refine J_istore_n (pc := 5) dX6_stays_5 rfl (by decide) rfl ?_
    show J X mX6_stays d (kc - 1) (ks - 6) 6 [some (.ref 0), some (.int (nI b1)), some (.int (nI 0)), none] [] w _
    refine J_iconst (pc := 6) (v := nI 0) dX6_stays_6 (by decide) ?_
    refine J_istore_n (pc := 7) dX6_stays_7 rfl (by decide) rfl ?_
    show J X mX6_stays d (kc - 1) (ks - 6) 8 [some (.ref 0), some (.int (nI b1)), some (.int (nI 0)), some (.int (nI 0))] [] w _
    have lp8_2 : ∀ (fuel : Nat) (c3 : Nat), (c3 ≤ n) → (n - c3 < fuel) → J X mX6_stays d (kc - 1) (ks - 6) 8 [some (.ref 0), some (.int (nI b1)), some (.int (nI (stF (d8 (cm b1)) c3))), some (.int (nI c3))] [] w (pX (pJ (fun v w' => ∃ a : Nat, (nI b1) = nI a ∧ a < 6 ∧ v = nI (stF (d8 (cm a)) n) ∧ HX n e r q cm w' ∧ FH w w')) (fun E w' => ((E = "java/lang/IndexOutOfBoundsException" ∧ ¬ (isN (nI b1) 6))) ∧ w' = w ++ [.inr (99, [])])) := by
      intro fuellp8_2
      induction fuellp8_2 with
      | zero => intros; omega
      | succ fuellp8_2 ihlp8_2 =>
        intro c3 hv8_0 hf3
        refine J_iload_n (pc := 8) dX6_stays_8 rfl rfl ?_
        refine J_aload_n (pc := 9) dX6_stays_9 rfl rfl rfl ?_
        refine J_get (pc := 10) (k := 5) dX6_stays_10 kC7 (by decide) ff_X6_41 h0 rfl ?_
        refine J_icmp_geN (pc := 13) (tgt := 42) dX6_stays_13 (by decide) (by omega) (by omega) (fun ht4 => ?_) (fun hf5 => ?_)
        · rw [show c3 = n by omega]
          refine J_iload_n (pc := 42) dX6_stays_42 rfl rfl ?_
          exact J_iret (pc := 43) dX6_stays_43 rfl (⟨b1, rfl, hb1, (by rfl), ⟨h0, h1⟩, hG⟩)
        · refine J_aload_n (pc := 16) dX6_stays_16 rfl rfl rfl ?_
          refine J_get (pc := 17) (k := 0) dX6_stays_17 kC7 (by decide) ff_X6_9 h0 rfl ?_
          refine J_iload_n (pc := 20) dX6_stays_20 rfl rfl ?_
          refine J_ialdF (pc := 21) dX6_stays_21 h1 (by omega) (by decide) ?_
          refine J_iload_n (pc := 22) dX6_stays_22 rfl rfl ?_
          refine J_callS0 (pc := 23) (M := mX6_stays) (as := [.int (nI (cm b1)), .int (nI c3)]) dX6_stays_23 fw_X2_goal fl_X6_144 fs_X2_goal rfl (c_X2_goal_atx hs (d := d - 1) (by omega) (w := w) (cm b1) c3 (by exact (hcm _ hb1).1) (by omega) (kc := 0) (ks := 0)) (by omega) (st := []) (Nat.le_of_ble_eq_true rfl) rfl (kr_P fun v6 hv6 => ?_) kx_I
          subst hv6
          have hq7 := d8_lt (cm b1) c3
          refine J_iload_n (pc := 26) dX6_stays_26 rfl rfl ?_
          refine J_icmp_neN (pc := 27) (tgt := 36) dX6_stays_27 (by decide) (by omega) (by omega) (fun ht8 => ?_) (fun hf9 => ?_)
          · refine J_iincN (pc := 36) (b := 1) dX6_stays_36 rfl (by decide) (by decide) rfl ?_
            show J X mX6_stays d (kc - 1) (ks - 6) 39 [some (.ref 0), some (.int (nI b1)), some (.int (nI (stF (d8 (cm b1)) c3))), some (.int (nI (c3 + 1)))] [] w _
            refine J_goto (pc := 39) (tgt := 8) dX6_stays_39 (by decide) ?_
            exact J_sub (L' := [some (.ref 0), some (.int (nI b1)), some (.int (nI (stF (d8 (cm b1)) (c3 + 1)))), some (.int (nI (c3 + 1)))]) ⟨rfl, ⟨rfl, ⟨(congrArg (fun z => some (Value.int (nI z))) (show stF (d8 (cm b1)) c3 = stF (d8 (cm b1)) (c3 + 1) by first | exact stF_t (by assumption) | exact stF_f (by assumption))), ⟨rfl, trivial⟩⟩⟩⟩ (ihlp8_2 (c3 + 1) (by first | assumption | omega) (by omega))
          · refine J_iload_n (pc := 30) dX6_stays_30 rfl rfl ?_
            refine J_iconst (pc := 31) (v := nI 1) dX6_stays_31 (by decide) ?_
            refine J_iload_n (pc := 32) dX6_stays_32 rfl rfl ?_
            refine J_shlOne (pc := 33) dX6_stays_33 (by omega) ?_
            refine J_iorN (pc := 34) dX6_stays_34 (by exact stF_31 _ (by omega)) (by exact Nat.pow_lt_pow_right (by decide) (by omega)) ?_
            refine J_istore_n (pc := 35) dX6_stays_35 rfl (by decide) rfl ?_
            show J X mX6_stays d (kc - 1) (ks - 6) 36 [some (.ref 0), some (.int (nI b1)), some (.int (nI ((stF (d8 (cm b1)) c3) ||| (2 ^ c3)))), some (.int (nI c3))] [] w _
            refine J_iincN (pc := 36) (b := 1) dX6_stays_36 rfl (by decide) (by decide) rfl ?_
            show J X mX6_stays d (kc - 1) (ks - 6) 39 [some (.ref 0), some (.int (nI b1)), some (.int (nI ((stF (d8 (cm b1)) c3) ||| (2 ^ c3)))), some (.int (nI (c3 + 1)))] [] w _
            refine J_goto (pc := 39) (tgt := 8) dX6_stays_39 (by decide) ?_
            exact J_sub (L' := [some (.ref 0), some (.int (nI b1)), some (.int (nI (stF (d8 (cm b1)) (c3 + 1)))), some (.int (nI (c3 + 1)))]) ⟨rfl, ⟨rfl, ⟨(congrArg (fun z => some (Value.int (nI z))) (show (stF (d8 (cm b1)) c3) ||| (2 ^ c3) = stF (d8 (cm b1)) (c3 + 1) by first | exact stF_t (by assumption) | exact stF_f (by assumption))), ⟨rfl, trivial⟩⟩⟩⟩ (ihlp8_2 (c3 + 1) (by first | assumption | omega) (by omega))
    exact J_sub (L' := [some (.ref 0), some (.int (nI b1)), some (.int (nI (stF (d8 (cm b1)) 0))), some (.int (nI 0))]) ⟨rfl, ⟨rfl, ⟨(congrArg (fun z => some (Value.int (nI z))) (show 0 = stF (d8 (cm b1)) 0 by rfl)), ⟨rfl, trivial⟩⟩⟩⟩ (lp8_2 _ 0 (by first | assumption | omega) (Nat.lt_succ_self _))
  · exact JX_out (fun _ h => nomatch h) (by obtain ⟨h1x, h2x, h3x⟩ := hx1; exact ⟨⟨h1x, fun g => ne_isN h3x g⟩, h2x⟩)
set_option maxRecDepth 100000 in
set_option maxHeartbeats 4000000 in
theorem c_X6_areAlike_atx {X : jX} (hs : X.1.stackTraces = false) {d : Nat} (hd : 12 ≤ d) {n : Nat} {e r q : Int32} {cm : Nat → Nat} {w : List jC} (hH : HX n e r q cm w) (hn1 : 2 ≤ n) (hn2 : n ≤ 7) (hcm : ∀ c, c < 6 → Mv n (cm c)) (p0 : Int32) (p1 : Int32) {kc ks : Nat} (hkc : 2 ≤ kc) (hks : 12 ≤ ks) : jMet X mX6_areAlike d kc ks [.ref 0, .int p0, .int p1] w (pX (pJ (fun v w' => ∃ a : Nat, ∃ b : Nat, p0 = nI a ∧ p1 = nI b ∧ a < 6 ∧ b < 6 ∧ v = nI (on (LK (cm a) (cm b))) ∧ HX n e r q cm w' ∧ FH w w')) (fun E w' => ((E = "java/lang/IndexOutOfBoundsException" ∧ ¬ (isN p0 6 ∧ isN p1 6))) ∧ w' = w ++ [.inr (99, [])])) := by
  refine jMet_of hs (by decide +kernel) (Nat.le_of_ble_eq_true rfl) (L := [some (.ref 0), some (.int p0), some (.int p1)]) rfl ?_
  obtain ⟨h0, h1⟩ := hH
  have hG : FH w w := FH.rf
  refine J_iload_n (pc := 0) dX6_areAlike_0 rfl rfl ?_
  refine J_callS (pc := 1) (M := mX6_areAlike) (as := [.int p0]) dX6_areAlike_1 fw_X6_needCell fl_X6_67 fs_X6_needCell rfl (c_X6_needCell_att hs (d := d - 1) (by omega) (w := w) p0 (kc := 1) (ks := 6) (Nat.le_refl _) (Nat.le_refl _)) (by omega) (by omega) (by omega) (st := []) (Nat.le_of_ble_eq_true rfl) rfl (kr_X (kr_V fun w1 hw1 => ?_)) (kx_X fun E1 w1 hx1 => ?_)
  · obtain ⟨hq1, hp1⟩ := hw1
    obtain rfl := hq1.symm
    obtain ⟨b1, hb1, rfl⟩ := hp1
    refine J_iload_n (pc := 4) dX6_areAlike_4 rfl rfl ?_
    refine J_callS (pc := 5) (M := mX6_areAlike) (as := [.int p1]) dX6_areAlike_5 fw_X6_needCell fl_X6_67 fs_X6_needCell rfl (c_X6_needCell_att hs (d := d - 1) (by omega) (w := w) p1 (kc := 1) (ks := 6) (Nat.le_refl _) (Nat.le_refl _)) (by omega) (by omega) (by omega) (st := []) (Nat.le_of_ble_eq_true rfl) rfl (kr_X (kr_V fun w2 hw2 => ?_)) (kx_X fun E2 w2 hx2 => ?_)
    · obtain ⟨hq2, hp2⟩ := hw2
      obtain rfl := hq2.symm
      obtain ⟨b2, hb2, rfl⟩ := hp2
      refine J_aload_n (pc := 8) dX6_areAlike_8 rfl rfl rfl ?_
      refine J_get (pc := 9) (k := 0) dX6_areAlike_9 kC7 (by decide) ff_X6_9 h0 rfl ?_
      refine J_iload_n (pc := 12) dX6_areAlike_12 rfl rfl ?_
      refine J_ialdF (pc := 13) dX6_areAlike_13 h1 (by omega) (by decide) ?_
      refine J_aload_n (pc := 14) dX6_areAlike_14 rfl rfl rfl ?_
      refine J_get (pc := 15) (k := 0) dX6_areAlike_15 kC7 (by decide) ff_X6_9 h0 rfl ?_
      refine J_iload_n (pc := 18) dX6_areAlike_18 rfl rfl ?_
      refine J_ialdF (pc := 19) dX6_areAlike_19 h1 (by omega) (by decide) ?_
      refine J_callS0 (pc := 20) (M := mX6_areAlike) (as := [.int (nI (cm b1)), .int (nI (cm b2))]) dX6_areAlike_20 fw_X2_haveLikeRings fl_X6_120 fs_X2_haveLikeRings rfl (c_X2_haveLikeRings_atx hs (d := d - 1) (by omega) (w := w) (cm b1) (cm b2) (by exact (hcm _ hb1).1) (by exact (hcm _ hb2).1) (by exact (hcm _ hb1).P7 hn2) (by exact (hcm _ hb2).P7 hn2) (kc := 0) (ks := 0)) (by omega) (st := []) (Nat.le_of_ble_eq_true rfl) rfl (kr_P fun v3 hv3 => ?_) kx_I
      rcases hv3 with ⟨rfl, hk3_0⟩ | ⟨rfl, hk3_0⟩
      · exact J_zret (pc := 23) dX6_areAlike_23 rfl (nar_b (by first | decide | omega)) (⟨b1, b2, rfl, rfl, hb1, hb2, (by first | exact congrArg nI (on_f (by assumption)).symm | exact congrArg nI (on_t (by assumption)).symm), ⟨h0, h1⟩, hG⟩)
      · exact J_zret (pc := 23) dX6_areAlike_23 rfl (nar_b (by first | decide | omega)) (⟨b1, b2, rfl, rfl, hb1, hb2, (by first | exact congrArg nI (on_f (by assumption)).symm | exact congrArg nI (on_t (by assumption)).symm), ⟨h0, h1⟩, hG⟩)
    · exact JX_out (fun _ h => nomatch h) (by obtain ⟨h1x, h2x, h3x⟩ := hx2; exact ⟨⟨h1x, fun g => ne_isN h3x g.2⟩, h2x⟩)
  · exact JX_out (fun _ h => nomatch h) (by obtain ⟨h1x, h2x, h3x⟩ := hx1; exact ⟨⟨h1x, fun g => ne_isN h3x g.1⟩, h2x⟩)
set_option maxRecDepth 100000 in
set_option maxHeartbeats 4000000 in
theorem c_X6_commute_atx {X : jX} (hs : X.1.stackTraces = false) {d : Nat} (hd : 12 ≤ d) {n : Nat} {e r q : Int32} {cm : Nat → Nat} {w : List jC} (hH : HX n e r q cm w) (hn1 : 2 ≤ n) (hn2 : n ≤ 7) (hcm : ∀ c, c < 6 → Mv n (cm c)) (p0 : Int32) (p1 : Int32) {kc ks : Nat} (hkc : 2 ≤ kc) (hks : 12 ≤ ks) : jMet X mX6_commute d kc ks [.ref 0, .int p0, .int p1] w (pX (pJ (fun v w' => ∃ a : Nat, ∃ b : Nat, p0 = nI a ∧ p1 = nI b ∧ a < 6 ∧ b < 6 ∧ v = (if c7 (cm a) (cm b) = c7 (cm b) (cm a) then nI 1 else nI 0) ∧ HX n e r q cm w' ∧ FH w w')) (fun E w' => ((E = "java/lang/IndexOutOfBoundsException" ∧ ¬ (isN p0 6 ∧ isN p1 6))) ∧ w' = w ++ [.inr (99, [])])) := by
  refine jMet_of hs (by decide +kernel) (Nat.le_of_ble_eq_true rfl) (L := [some (.ref 0), some (.int p0), some (.int p1)]) rfl ?_
  obtain ⟨h0, h1⟩ := hH
  have hG : FH w w := FH.rf
  refine J_iload_n (pc := 0) dX6_commute_0 rfl rfl ?_
  refine J_callS (pc := 1) (M := mX6_commute) (as := [.int p0]) dX6_commute_1 fw_X6_needCell fl_X6_67 fs_X6_needCell rfl (c_X6_needCell_att hs (d := d - 1) (by omega) (w := w) p0 (kc := 1) (ks := 6) (Nat.le_refl _) (Nat.le_refl _)) (by omega) (by omega) (by omega) (st := []) (Nat.le_of_ble_eq_true rfl) rfl (kr_X (kr_V fun w1 hw1 => ?_)) (kx_X fun E1 w1 hx1 => ?_)
  · obtain ⟨hq1, hp1⟩ := hw1
    obtain rfl := hq1.symm
    obtain ⟨b1, hb1, rfl⟩ := hp1
    refine J_iload_n (pc := 4) dX6_commute_4 rfl rfl ?_
    refine J_callS (pc := 5) (M := mX6_commute) (as := [.int p1]) dX6_commute_5 fw_X6_needCell fl_X6_67 fs_X6_needCell rfl (c_X6_needCell_att hs (d := d - 1) (by omega) (w := w) p1 (kc := 1) (ks := 6) (Nat.le_refl _) (Nat.le_refl _)) (by omega) (by omega) (by omega) (st := []) (Nat.le_of_ble_eq_true rfl) rfl (kr_X (kr_V fun w2 hw2 => ?_)) (kx_X fun E2 w2 hx2 => ?_)
    · obtain ⟨hq2, hp2⟩ := hw2
      obtain rfl := hq2.symm
      obtain ⟨b2, hb2, rfl⟩ := hp2
      refine J_aload_n (pc := 8) dX6_commute_8 rfl rfl rfl ?_
      refine J_get (pc := 9) (k := 0) dX6_commute_9 kC7 (by decide) ff_X6_9 h0 rfl ?_
      refine J_iload_n (pc := 12) dX6_commute_12 rfl rfl ?_
      refine J_ialdF (pc := 13) dX6_commute_13 h1 (by omega) (by decide) ?_
      refine J_aload_n (pc := 14) dX6_commute_14 rfl rfl rfl ?_
      refine J_get (pc := 15) (k := 0) dX6_commute_15 kC7 (by decide) ff_X6_9 h0 rfl ?_
      refine J_iload_n (pc := 18) dX6_commute_18 rfl rfl ?_
      refine J_ialdF (pc := 19) dX6_commute_19 h1 (by omega) (by decide) ?_
      refine J_callS0 (pc := 20) (M := mX6_commute) (as := [.int (nI (cm b1)), .int (nI (cm b2))]) dX6_commute_20 fw_X2_both fl_X6_93 fs_X2_both rfl (c_X2_both_atx hs (d := d - 1) (by omega) (w := w) (cm b1) (cm b2) (by exact (hcm _ hb1).1) (by exact (hcm _ hb2).1) (kc := 0) (ks := 0)) (by omega) (st := []) (Nat.le_of_ble_eq_true rfl) rfl (kr_P fun v3 hv3 => ?_) kx_I
      subst hv3
      refine J_aload_n (pc := 23) dX6_commute_23 rfl rfl rfl ?_
      refine J_get (pc := 24) (k := 0) dX6_commute_24 kC7 (by decide) ff_X6_9 h0 rfl ?_
      refine J_iload_n (pc := 27) dX6_commute_27 rfl rfl ?_
      refine J_ialdF (pc := 28) dX6_commute_28 h1 (by omega) (by decide) ?_
      refine J_aload_n (pc := 29) dX6_commute_29 rfl rfl rfl ?_
      refine J_get (pc := 30) (k := 0) dX6_commute_30 kC7 (by decide) ff_X6_9 h0 rfl ?_
      refine J_iload_n (pc := 33) dX6_commute_33 rfl rfl ?_
      refine J_ialdF (pc := 34) dX6_commute_34 h1 (by omega) (by decide) ?_
      refine J_callS0 (pc := 35) (M := mX6_commute) (as := [.int (nI (cm b2)), .int (nI (cm b1))]) dX6_commute_35 fw_X2_both fl_X6_93 fs_X2_both rfl (c_X2_both_atx hs (d := d - 1) (by omega) (w := w) (cm b2) (cm b1) (by exact (hcm _ hb2).1) (by exact (hcm _ hb1).1) (kc := 0) (ks := 0)) (by omega) (st := [.int (nI (c7 (cm b1) (cm b2)))]) (Nat.le_of_ble_eq_true rfl) rfl (kr_P fun v4 hv4 => ?_) kx_I
      subst hv4
      have hcl1 := lt31 (c7_lt (cm b1) (cm b2))
      have hcl2 := lt31 (c7_lt (cm b2) (cm b1))
      refine J_icmp_neN (pc := 38) (tgt := 45) dX6_commute_38 (by decide) (by omega) (by omega) (fun ht5 => ?_) (fun hf6 => ?_)
      · refine J_iconst (pc := 45) (v := nI 0) dX6_commute_45 (by decide) ?_
        exact J_zret (pc := 46) dX6_commute_46 rfl (nar_b (by first | decide | omega)) (⟨b1, b2, rfl, rfl, hb1, hb2, (by first | exact (if_pos (by assumption)).symm | exact (if_neg (by assumption)).symm), ⟨h0, h1⟩, hG⟩)
      · refine J_iconst (pc := 41) (v := nI 1) dX6_commute_41 (by decide) ?_
        refine J_goto (pc := 42) (tgt := 46) dX6_commute_42 (by decide) ?_
        exact J_zret (pc := 46) dX6_commute_46 rfl (nar_b (by first | decide | omega)) (⟨b1, b2, rfl, rfl, hb1, hb2, (by first | exact (if_pos (by assumption)).symm | exact (if_neg (by assumption)).symm), ⟨h0, h1⟩, hG⟩)
    · exact JX_out (fun _ h => nomatch h) (by obtain ⟨h1x, h2x, h3x⟩ := hx2; exact ⟨⟨h1x, fun g => ne_isN h3x g.2⟩, h2x⟩)
  · exact JX_out (fun _ h => nomatch h) (by obtain ⟨h1x, h2x, h3x⟩ := hx1; exact ⟨⟨h1x, fun g => ne_isN h3x g.1⟩, h2x⟩)
set_option maxRecDepth 100000 in
set_option maxHeartbeats 4000000 in
theorem c_X6_house_atx {X : jX} (hs : X.1.stackTraces = false) {d : Nat} (hd : 13 ≤ d) {n : Nat} {e r q : Int32} {cm : Nat → Nat} {w : List jC} (hH : HX n e r q cm w) (hn1 : 2 ≤ n) (hn2 : n ≤ 7) (hcm : ∀ c, c < 6 → Mv n (cm c)) (p0 : Int32) {kc ks : Nat} (hkc : 1 ≤ kc) (hks : 6 ≤ ks) : jMet X mX6_house d kc ks [.ref 0, .int p0] w (pX (pJ (fun v w' => ∃ a : Nat, p0 = nI a ∧ a < 3 ∧ v = (if a = 0 then e else if a = 1 then r else q) ∧ HX n e r q cm w' ∧ FH w w')) (fun E w' => ((E = "java/lang/IllegalArgumentException" ∧ ¬ (isN p0 3))) ∧ w' = w ++ [.inr (99, [])])) := by
  refine jMet_of hs (by decide +kernel) (Nat.le_of_ble_eq_true rfl) (L := [some (.ref 0), some (.int p0)]) rfl ?_
  obtain ⟨h0, h1⟩ := hH
  have hG : FH w w := FH.rf
  refine J_iload_n (pc := 0) dX6_house_0 rfl rfl ?_
  refine J_iconst (pc := 1) (v := nI 0) dX6_house_1 (by decide) ?_
  refine J_iconst (pc := 2) (v := nI 2) dX6_house_2 (by decide) ?_
  refine J_callS (pc := 3) (M := mX6_house) (as := [.int p0, .int (nI 0), .int (nI 2)]) dX6_house_3 fw_X6_needBetween fl_X6_63 fs_X6_needBetween rfl (c_X6_needBetween_att hs (d := d - 1) (by omega) (w := w) p0 (nI 0) (nI 2) (kc := 1) (ks := 6) (Nat.le_refl _) (Nat.le_refl _)) (by omega) (by omega) (by omega) (st := []) (Nat.le_of_ble_eq_true rfl) rfl (kr_X (kr_V fun w1 hw1 => ?_)) (kx_X fun E1 w1 hx1 => ?_)
  · obtain ⟨hq1, hp1⟩ := hw1
    obtain rfl := hq1.symm
    have hbt := hp1
    obtain ⟨b9, hb9, hb9z, rfl⟩ := nI_btw hbt.1 hbt.2 (by omega) (by omega)
    refine J_iload_n (pc := 6) dX6_house_6 rfl rfl ?_
    refine J_if_neN (pc := 7) (tgt := 15) dX6_house_7 (by decide) (by omega) (fun ht2 => ?_) (fun hf3 => ?_)
    · refine J_iload_n (pc := 15) dX6_house_15 rfl rfl ?_
      refine J_iconst (pc := 16) (v := nI 1) dX6_house_16 (by decide) ?_
      refine J_icmp_neN (pc := 17) (tgt := 27) dX6_house_17 (by decide) (by omega) (by omega) (fun ht4 => ?_) (fun hf5 => ?_)
      · refine J_aload_n (pc := 27) dX6_house_27 rfl rfl rfl ?_
        refine J_get (pc := 28) (k := 8) dX6_house_28 kC7 (by decide) ff_X6_51 h0 rfl ?_
        exact J_iret (pc := 31) dX6_house_31 rfl (⟨b9, rfl, (show b9 < 3 by omega), (by first | exact (if_pos (by omega)).symm | exact ((if_neg (by omega)).trans (if_pos (by omega))).symm | exact ((if_neg (by omega)).trans (if_neg (by omega))).symm), ⟨h0, h1⟩, hG⟩)
      · refine J_aload_n (pc := 20) dX6_house_20 rfl rfl rfl ?_
        refine J_get (pc := 21) (k := 7) dX6_house_21 kC7 (by decide) ff_X6_48 h0 rfl ?_
        refine J_goto (pc := 24) (tgt := 31) dX6_house_24 (by decide) ?_
        exact J_iret (pc := 31) dX6_house_31 rfl (⟨b9, rfl, (show b9 < 3 by omega), (by first | exact (if_pos (by omega)).symm | exact ((if_neg (by omega)).trans (if_pos (by omega))).symm | exact ((if_neg (by omega)).trans (if_neg (by omega))).symm), ⟨h0, h1⟩, hG⟩)
    · refine J_aload_n (pc := 10) dX6_house_10 rfl rfl rfl ?_
      refine J_get (pc := 11) (k := 6) dX6_house_11 kC7 (by decide) ff_X6_45 h0 rfl ?_
      exact J_iret (pc := 14) dX6_house_14 rfl (⟨b9, rfl, (show b9 < 3 by omega), (by first | exact (if_pos (by omega)).symm | exact ((if_neg (by omega)).trans (if_pos (by omega))).symm | exact ((if_neg (by omega)).trans (if_neg (by omega))).symm), ⟨h0, h1⟩, hG⟩)
  · exact JX_out (fun _ h => nomatch h) (by obtain ⟨h1x, h2x, h3x⟩ := hx1; exact ⟨⟨h1x, lay_no (by decide) (by decide) h3x⟩, h2x⟩)
