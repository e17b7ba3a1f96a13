/-! contracts of the class -/
set_option maxRecDepth 100000 in
set_option maxHeartbeats 4000000 in
theorem c_X6_number {X : jX} (hs : X.1.stackTraces = false) {d : Nat} (hd : 12 ≤ d) {n : Nat} {e r q : Int32} (hn1 : 2 ≤ n) (hn2 : n ≤ 7) {w : List jC} (hS : SH (rX n e r q) w) (p0 : Int32) {kc ks : Nat} (hkc : 1 ≤ kc) (hks : 6 ≤ ks) : jMet X mX6_number d kc ks [.ref 0, .int p0] w (pX (pI (fun _ => True) (fun w' => w' = w)) (fun E w' => (E = "java/lang/IndexOutOfBoundsException") ∧ w' = w ++ [.inr (99, [])])) := by
  refine jMet_of hs (by decide +kernel) (Nat.le_of_ble_eq_true rfl) (L := [some (.ref 0), some (.int p0)]) rfl ?_
  have hG : Fr kX w w := Fr.rf
  refine J_iload_n (pc := 0) dX6_number_0 rfl rfl ?_
  refine J_callS (pc := 1) (M := mX6_number) (as := [.int p0]) dX6_number_1 fw_X6_needCell fl_X6_67 fs_X6_needCell rfl (c_X6_needCell hs (d := d - 1) (by omega) (w := w) p0 (kc := 1) (ks := 6) (Nat.le_refl _) (Nat.le_refl _)) (by omega) (by omega) (by omega) (st := []) (Nat.le_of_ble_eq_true rfl) rfl (kr_X (kr_V fun w1 hw1 => ?_)) (kx_X fun E1 w1 hx1 => ?_)
  · obtain ⟨hq1, hp1⟩ := hw1
    obtain rfl := hq1.symm
    obtain ⟨b1, hb1, rfl⟩ := hp1
    refine J_aload_n (pc := 4) dX6_number_4 rfl rfl rfl ?_
    obtain ⟨_, hc2, rfl⟩ := hS 0 _ rfl
    refine J_get (pc := 5) (k := 0) dX6_number_5 kC7 (by decide) ff_X6_9 hc2 rfl ?_
    refine J_iload_n (pc := 8) dX6_number_8 rfl rfl ?_
    obtain ⟨_, hc3, xs3, rfl, hl3⟩ := hS 1 _ rfl
    refine J_iald (pc := 9) dX6_number_9 hc3 (nI_in (by omega) (by omega)) (J_absI fun x4 => ?_)
    refine J_aload_n (pc := 10) dX6_number_10 rfl rfl rfl ?_
    refine J_get (pc := 11) (k := 5) dX6_number_11 kC7 (by decide) ff_X6_41 hc2 rfl ?_
    refine J_callS0 (pc := 14) (M := mX6_number) (as := [.int x4, .int (nI n)]) dX6_number_14 fw_X2_numberOf fl_X6_75 fs_X2_numberOf rfl (c_X2_numberOf hs (d := d - 1) (by omega) (w := w) x4 n (by omega) (kc := 0) (ks := 0)) (by omega) (st := []) (Nat.le_of_ble_eq_true rfl) rfl (kr_P fun v5 hv5 => ?_) kx_I
    exact J_iret (pc := 17) dX6_number_17 rfl ⟨trivial, rfl⟩
  · exact JX_out (fun _ h => nomatch h) (by obtain ⟨h1, h2⟩ := hx1; exact ⟨h1, h2⟩)
set_option maxRecDepth 100000 in
set_option maxHeartbeats 4000000 in
theorem c_X6_goes {X : jX} (hs : X.1.stackTraces = false) {d : Nat} (hd : 12 ≤ d) {n : Nat} {e r q : Int32} (hn1 : 2 ≤ n) (hn2 : n ≤ 7) {w : List jC} (hS : SH (rX n e r q) w) (p0 : Int32) (p1 : Int32) {kc ks : Nat} (hkc : 2 ≤ kc) (hks : 12 ≤ ks) : jMet X mX6_goes d kc ks [.ref 0, .int p0, .int p1] w (pX (pI (fun v => ∃ k : Nat, v = nI k ∧ k < 8) (fun w' => w' = w)) (fun E w' => (E = "java/lang/IndexOutOfBoundsException") ∧ w' = w ++ [.inr (99, [])])) := by
  refine jMet_of hs (by decide +kernel) (Nat.le_of_ble_eq_true rfl) (L := [some (.ref 0), some (.int p0), some (.int p1)]) rfl ?_
  have hG : Fr kX w w := Fr.rf
  refine J_iload_n (pc := 0) dX6_goes_0 rfl rfl ?_
  refine J_callS (pc := 1) (M := mX6_goes) (as := [.int p0]) dX6_goes_1 fw_X6_needCell fl_X6_67 fs_X6_needCell rfl (c_X6_needCell hs (d := d - 1) (by omega) (w := w) p0 (kc := 1) (ks := 6) (Nat.le_refl _) (Nat.le_refl _)) (by omega) (by omega) (by omega) (st := []) (Nat.le_of_ble_eq_true rfl) rfl (kr_X (kr_V fun w1 hw1 => ?_)) (kx_X fun E1 w1 hx1 => ?_)
  · obtain ⟨hq1, hp1⟩ := hw1
    obtain rfl := hq1.symm
    obtain ⟨b1, hb1, rfl⟩ := hp1
    refine J_aload_n (pc := 4) dX6_goes_4 rfl rfl rfl ?_
    refine J_iload_n (pc := 5) dX6_goes_5 rfl rfl ?_
    obtain ⟨_, hc3, rfl⟩ := hS 0 _ rfl
    refine J_callV (pc := 6) (M := mX6_goes) (as := [.int p1]) dX6_goes_6 fw_X6_needPoint fl_X6_86 fm_X6_needPoint fe_X6_needPoint hc3 (by decide) rfl rfl rfl (c_X6_needPoint hs (d := d - 1) (by omega) (e := e) (r := r) (q := q) hn1 hn2 hS (w := w) p1 (kc := 1) (ks := 6) (Nat.le_refl _) (Nat.le_refl _)) (by omega) (by omega) (by omega) (st := []) (Nat.le_of_ble_eq_true rfl) rfl (kr_X (kr_V fun w2 hw2 => ?_)) (kx_X fun E2 w2 hx2 => ?_)
    · obtain ⟨hq2, hp2⟩ := hw2
      obtain rfl := hq2.symm
      obtain ⟨b2, hb2, rfl⟩ := hp2
      refine J_aload_n (pc := 9) dX6_goes_9 rfl rfl rfl ?_
      refine J_get (pc := 10) (k := 0) dX6_goes_10 kC7 (by decide) ff_X6_9 hc3 rfl ?_
      refine J_iload_n (pc := 13) dX6_goes_13 rfl rfl ?_
      obtain ⟨_, hc4, xs4, rfl, hl4⟩ := hS 1 _ rfl
      refine J_iald (pc := 14) dX6_goes_14 hc4 (nI_in (by omega) (by omega)) (J_absI fun x5 => ?_)
      refine J_iload_n (pc := 15) dX6_goes_15 rfl rfl ?_
      refine J_callS0 (pc := 16) (M := mX6_goes) (as := [.int x5, .int (nI b2)]) dX6_goes_16 fw_X2_goal fl_X6_144 fs_X2_goal rfl (c_X2_goal hs (d := d - 1) (by omega) (w := w) x5 (nI b2) (kc := 0) (ks := 0)) (by omega) (st := []) (Nat.le_of_ble_eq_true rfl) rfl (kr_P fun v6 hv6 => ?_) kx_I
      obtain ⟨k6, rfl, hk6⟩ := hv6
      exact J_iret (pc := 19) dX6_goes_19 rfl ⟨⟨k6, rfl, by omega⟩, rfl⟩
    · exact JX_out (fun _ h => nomatch h) (by obtain ⟨h1, h2⟩ := hx2; exact ⟨h1, h2⟩)
  · exact JX_out (fun _ h => nomatch h) (by obtain ⟨h1, h2⟩ := hx1; exact ⟨h1, h2⟩)
set_option maxRecDepth 100000 in
set_option maxHeartbeats 4000000 in
theorem c_X6_order {X : jX} (hs : X.1.stackTraces = false) {d : Nat} (hd : 12 ≤ d) {n : Nat} {e r q : Int32} (hn1 : 2 ≤ n) (hn2 : n ≤ 7) {w : List jC} (hS : SH (rX n e r q) w) (p0 : Int32) {kc ks : Nat} (hkc : 1 ≤ kc) (hks : 6 ≤ ks) : jMet X mX6_order d kc ks [.ref 0, .int p0] w (pX (pI (fun v => ∃ k : Nat, v = nI k ∧ k < 16) (fun w' => w' = w)) (fun E w' => (E = "java/lang/IndexOutOfBoundsException") ∧ w' = w ++ [.inr (99, [])])) := by
  refine jMet_of hs (by decide +kernel) (Nat.le_of_ble_eq_true rfl) (L := [some (.ref 0), some (.int p0)]) rfl ?_
  have hG : Fr kX w w := Fr.rf
  refine J_iload_n (pc := 0) dX6_order_0 rfl rfl ?_
  refine J_callS (pc := 1) (M := mX6_order) (as := [.int p0]) dX6_order_1 fw_X6_needCell fl_X6_67 fs_X6_needCell rfl (c_X6_needCell hs (d := d - 1) (by omega) (w := w) p0 (kc := 1) (ks := 6) (Nat.le_refl _) (Nat.le_refl _)) (by omega) (by omega) (by omega) (st := []) (Nat.le_of_ble_eq_true rfl) rfl (kr_X (kr_V fun w1 hw1 => ?_)) (kx_X fun E1 w1 hx1 => ?_)
  · obtain ⟨hq1, hp1⟩ := hw1
    obtain rfl := hq1.symm
    obtain ⟨b1, hb1, rfl⟩ := hp1
    refine J_aload_n (pc := 4) dX6_order_4 rfl rfl rfl ?_
    obtain ⟨_, hc2, rfl⟩ := hS 0 _ rfl
    refine J_get (pc := 5) (k := 0) dX6_order_5 kC7 (by decide) ff_X6_9 hc2 rfl ?_
    refine J_iload_n (pc := 8) dX6_order_8 rfl rfl ?_
    obtain ⟨_, hc3, xs3, rfl, hl3⟩ := hS 1 _ rfl
    refine J_iald (pc := 9) dX6_order_9 hc3 (nI_in (by omega) (by omega)) (J_absI fun x4 => ?_)
    refine J_callS0 (pc := 10) (M := mX6_order) (as := [.int x4]) dX6_order_10 fw_X2_orderOf fl_X6_164 fs_X2_orderOf rfl (c_X2_orderOf hs (d := d - 1) (by omega) (w := w) x4 (kc := 0) (ks := 0)) (by omega) (st := []) (Nat.le_of_ble_eq_true rfl) rfl (kr_P fun v5 hv5 => ?_) kx_I
    obtain ⟨k5, rfl, hk5⟩ := hv5
    exact J_iret (pc := 13) dX6_order_13 rfl ⟨⟨k5, rfl, by omega⟩, rfl⟩
  · exact JX_out (fun _ h => nomatch h) (by obtain ⟨h1, h2⟩ := hx1; exact ⟨h1, h2⟩)
set_option maxRecDepth 100000 in
set_option maxHeartbeats 4000000 in
theorem c_X6_sign {X : jX} (hs : X.1.stackTraces = false) {d : Nat} (hd : 12 ≤ d) {n : Nat} {e r q : Int32} (hn1 : 2 ≤ n) (hn2 : n ≤ 7) {w : List jC} (hS : SH (rX n e r q) w) (p0 : Int32) {kc ks : Nat} (hkc : 1 ≤ kc) (hks : 6 ≤ ks) : jMet X mX6_sign d kc ks [.ref 0, .int p0] w (pX (pI (fun _ => True) (fun w' => w' = w)) (fun E w' => (E = "java/lang/IndexOutOfBoundsException") ∧ w' = w ++ [.inr (99, [])])) := by
  refine jMet_of hs (by decide +kernel) (Nat.le_of_ble_eq_true rfl) (L := [some (.ref 0), some (.int p0)]) rfl ?_
  have hG : Fr kX w w := Fr.rf
  refine J_iload_n (pc := 0) dX6_sign_0 rfl rfl ?_
  refine J_callS (pc := 1) (M := mX6_sign) (as := [.int p0]) dX6_sign_1 fw_X6_needCell fl_X6_67 fs_X6_needCell rfl (c_X6_needCell hs (d := d - 1) (by omega) (w := w) p0 (kc := 1) (ks := 6) (Nat.le_refl _) (Nat.le_refl _)) (by omega) (by omega) (by omega) (st := []) (Nat.le_of_ble_eq_true rfl) rfl (kr_X (kr_V fun w1 hw1 => ?_)) (kx_X fun E1 w1 hx1 => ?_)
  · obtain ⟨hq1, hp1⟩ := hw1
    obtain rfl := hq1.symm
    obtain ⟨b1, hb1, rfl⟩ := hp1
    refine J_aload_n (pc := 4) dX6_sign_4 rfl rfl rfl ?_
    obtain ⟨_, hc2, rfl⟩ := hS 0 _ rfl
    refine J_get (pc := 5) (k := 0) dX6_sign_5 kC7 (by decide) ff_X6_9 hc2 rfl ?_
    refine J_iload_n (pc := 8) dX6_sign_8 rfl rfl ?_
    obtain ⟨_, hc3, xs3, rfl, hl3⟩ := hS 1 _ rfl
    refine J_iald (pc := 9) dX6_sign_9 hc3 (nI_in (by omega) (by omega)) (J_absI fun x4 => ?_)
    refine J_aload_n (pc := 10) dX6_sign_10 rfl rfl rfl ?_
    refine J_get (pc := 11) (k := 5) dX6_sign_11 kC7 (by decide) ff_X6_41 hc2 rfl ?_
    refine J_callS0 (pc := 14) (M := mX6_sign) (as := [.int x4, .int (nI n)]) dX6_sign_14 fw_X2_signOf fl_X6_167 fs_X2_signOf rfl (c_X2_signOf hs (d := d - 1) (by omega) (w := w) x4 n (by omega) (kc := 0) (ks := 0)) (by omega) (st := []) (Nat.le_of_ble_eq_true rfl) rfl (kr_P fun v5 hv5 => ?_) kx_I
    exact J_iret (pc := 17) dX6_sign_17 rfl ⟨trivial, rfl⟩
  · exact JX_out (fun _ h => nomatch h) (by obtain ⟨h1, h2⟩ := hx1; exact ⟨h1, h2⟩)
set_option maxRecDepth 100000 in
set_option maxHeartbeats 4000000 in
theorem c_X6_stays {X : jX} (hs : X.1.stackTraces = false) {d : Nat} (hd : 12 ≤ d) {n : Nat} {e r q : Int32} (hn1 : 2 ≤ n) (hn2 : n ≤ 7) {w : List jC} (hS : SH (rX n e r q) w) (p0 : Int32) {kc ks : Nat} (hkc : 1 ≤ kc) (hks : 6 ≤ ks) : jMet X mX6_stays d kc ks [.ref 0, .int p0] w (pX (pI (fun _ => True) (fun w' => w' = w)) (fun E w' => (E = "java/lang/IndexOutOfBoundsException") ∧ w' = w ++ [.inr (99, [])])) := by
  refine jMet_of hs (by decide +kernel) (Nat.le_of_ble_eq_true rfl) (L := [some (.ref 0), some (.int p0), none, none]) rfl ?_
  have hG : Fr kX w w := Fr.rf
  refine J_iload_n (pc := 0) dX6_stays_0 rfl rfl ?_
  refine J_callS (pc := 1) (M := mX6_stays) (as := [.int p0]) dX6_stays_1 fw_X6_needCell fl_X6_67 fs_X6_needCell rfl (c_X6_needCell hs (d := d - 1) (by omega) (w := w) p0 (kc := 1) (ks := 6) (Nat.le_refl _) (Nat.le_refl _)) (by omega) (by omega) (by omega) (st := []) (Nat.le_of_ble_eq_true rfl) rfl (kr_X (kr_V fun w1 hw1 => ?_)) (kx_X fun E1 w1 hx1 => ?_)
  · obtain ⟨hq1, hp1⟩ := hw1
    obtain rfl := hq1.symm
    obtain ⟨b1, hb1, rfl⟩ := hp1
    refine J_iconst (pc := 4) (v := nI 0) dX6_stays_4 (by decide) ?_
    refine J_istore_n (pc := 5) dX6_stays_5 rfl (by decide) rfl ?_
    show J X mX6_stays d (kc - 1) (ks - 6) 6 [some (.ref 0), some (.int (nI b1)), some (.int (nI 0)), none] [] w _
    refine J_iconst (pc := 6) (v := nI 0) dX6_stays_6 (by decide) ?_
    refine J_istore_n (pc := 7) dX6_stays_7 rfl (by decide) rfl ?_
    show J X mX6_stays d (kc - 1) (ks - 6) 8 [some (.ref 0), some (.int (nI b1)), some (.int (nI 0)), some (.int (nI 0))] [] w _
    have lp8_2 : ∀ (fuel : Nat) (z2 : Int32) (c3 : Nat), c3 < 2147483648 → 7 - c3 < fuel → J X mX6_stays d (kc - 1) (ks - 6) 8 [some (.ref 0), some (.int (nI b1)), some (.int z2), some (.int (nI c3))] [] w (pX (pI (fun _ => True) (fun w' => w' = w)) (fun E w' => (E = "java/lang/IndexOutOfBoundsException") ∧ w' = w ++ [.inr (99, [])])) := by
      intro fuellp8_2
      induction fuellp8_2 with
      | zero => intros; omega
      | succ fuellp8_2 ihlp8_2 =>
        intro z2 c3 hi3 hf4
        refine J_iload_n (pc := 8) dX6_stays_8 rfl rfl ?_
        refine J_aload_n (pc := 9) dX6_stays_9 rfl rfl rfl ?_
        obtain ⟨_, hc5, rfl⟩ := hS 0 _ rfl
        refine J_get (pc := 10) (k := 5) dX6_stays_10 kC7 (by decide) ff_X6_41 hc5 rfl ?_
        refine J_icmp_geN (pc := 13) (tgt := 42) dX6_stays_13 (by decide) (by omega) (by omega) (fun ht6 => ?_) (fun hf7 => ?_)
        · refine J_iload_n (pc := 42) dX6_stays_42 rfl rfl ?_
          exact J_iret (pc := 43) dX6_stays_43 rfl ⟨trivial, rfl⟩
        · refine J_aload_n (pc := 16) dX6_stays_16 rfl rfl rfl ?_
          refine J_get (pc := 17) (k := 0) dX6_stays_17 kC7 (by decide) ff_X6_9 hc5 rfl ?_
          refine J_iload_n (pc := 20) dX6_stays_20 rfl rfl ?_
          obtain ⟨_, hc8, xs8, rfl, hl8⟩ := hS 1 _ rfl
          refine J_iald (pc := 21) dX6_stays_21 hc8 (nI_in (by omega) (by omega)) (J_absI fun x9 => ?_)
          refine J_iload_n (pc := 22) dX6_stays_22 rfl rfl ?_
          refine J_callS0 (pc := 23) (M := mX6_stays) (as := [.int x9, .int (nI c3)]) dX6_stays_23 fw_X2_goal fl_X6_144 fs_X2_goal rfl (c_X2_goal hs (d := d - 1) (by omega) (w := w) x9 (nI c3) (kc := 0) (ks := 0)) (by omega) (st := []) (Nat.le_of_ble_eq_true rfl) rfl (kr_P fun v10 hv10 => ?_) kx_I
          obtain ⟨k10, rfl, hk10⟩ := hv10
          refine J_iload_n (pc := 26) dX6_stays_26 rfl rfl ?_
          refine J_icmp_neN (pc := 27) (tgt := 36) dX6_stays_27 (by decide) (by omega) (by omega) (fun ht11 => ?_) (fun hf12 => ?_)
          · refine J_iincN (pc := 36) (b := 1) dX6_stays_36 rfl (by decide) (by decide) rfl ?_
            show J X mX6_stays d (kc - 1) (ks - 6) 39 [some (.ref 0), some (.int (nI b1)), some (.int z2), some (.int (nI (c3 + 1)))] [] w _
            refine J_goto (pc := 39) (tgt := 8) dX6_stays_39 (by decide) ?_
            exact J_sub (L' := [some (.ref 0), some (.int (nI b1)), some (.int z2), some (.int (nI (c3 + 1)))]) ⟨rfl, ⟨rfl, ⟨rfl, ⟨rfl, trivial⟩⟩⟩⟩ (ihlp8_2 z2 (c3 + 1) (by first | assumption | omega) (by omega))
          · refine J_iload_n (pc := 30) dX6_stays_30 rfl rfl ?_
            refine J_iconst (pc := 31) (v := nI 1) dX6_stays_31 (by decide) ?_
            refine J_iload_n (pc := 32) dX6_stays_32 rfl rfl ?_
            refine J_ishl (pc := 33) dX6_stays_33 (J_absI fun x13 => ?_)
            refine J_ior (pc := 34) dX6_stays_34 (J_absI fun x14 => ?_)
            refine J_istore_n (pc := 35) dX6_stays_35 rfl (by decide) rfl ?_
            show J X mX6_stays d (kc - 1) (ks - 6) 36 [some (.ref 0), some (.int (nI b1)), some (.int x14), some (.int (nI c3))] [] w _
            refine J_iincN (pc := 36) (b := 1) dX6_stays_36 rfl (by decide) (by decide) rfl ?_
            show J X mX6_stays d (kc - 1) (ks - 6) 39 [some (.ref 0), some (.int (nI b1)), some (.int x14), some (.int (nI (c3 + 1)))] [] w _
            refine J_goto (pc := 39) (tgt := 8) dX6_stays_39 (by decide) ?_
            exact J_sub (L' := [some (.ref 0), some (.int (nI b1)), some (.int x14), some (.int (nI (c3 + 1)))]) ⟨rfl, ⟨rfl, ⟨rfl, ⟨rfl, trivial⟩⟩⟩⟩ (ihlp8_2 x14 (c3 + 1) (by first | assumption | omega) (by omega))
    exact J_sub (L' := [some (.ref 0), some (.int (nI b1)), some (.int (nI 0)), some (.int (nI 0))]) ⟨rfl, ⟨rfl, ⟨rfl, ⟨rfl, trivial⟩⟩⟩⟩ (lp8_2 _ (nI 0) 0 (by first | assumption | omega) (Nat.lt_succ_self _))
  · exact JX_out (fun _ h => nomatch h) (by obtain ⟨h1, h2⟩ := hx1; exact ⟨h1, h2⟩)
