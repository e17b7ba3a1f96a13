section
/-! contracts of the class -/
set_option maxRecDepth 100000 in
set_option maxHeartbeats 4000000 in
theorem c_X6_number {X : jX} (hs : X.1.stackTraces = false) {d : Nat} (hd : 12 ≤ d) {n : Nat} {e r q : Int32} (hn1 : 2 ≤ n) (hn2 : n ≤ 7) {w : List jC} (hS : SH (rX n e r q) w) (p0 : Int32) {kc ks : Nat} (hkc : 1 ≤ kc) (hks : 6 ≤ ks) : jMet X mX6_number d kc ks [.ref 0, .int p0] w (pX (pI (fun _ => True) (fun w' => w' = w)) (fun E w' => (E = "java/lang/IndexOutOfBoundsException") ∧ w' = w ++ [.inr (99, [])])) := by
  refine jMet_of hs (by decide +kernel) (Nat.le_of_ble_eq_true rfl) (L := [some (.ref 0), some (.int p0)]) rfl ?_
  have hG : Fr kX w w := Fr.rf
  refine J_iload_n (pc := 0) dX6_number_0 rfl rfl ?_
  refine J_callS (pc := 1) (M := mX6_number) (as := [.int p0]) dX6_number_1 fw_X6_needCell fl_X6_67 fs_X6_needCell rfl (c_X6_needCell hs (d := d - 1) (by omega) (w := w) p0 (kc := 1) (ks := 6) (Nat.le_refl _) (Nat.le_refl _)) (by omega) (by omega) (by omega) (st := []) (Nat.le_of_ble_eq_true rfl) rfl (kr_X (kr_V fun w1 hw1 => ?_)) (kx_X fun E1 w1 hx1 => ?_)
  · obtain ⟨hq1, hp1⟩ := hw1
    obtain rfl := hq1.symm
    obtain ⟨b1, hb1, rfl⟩ := hp1
    refine J_aload_n (pc := 4) dX6_number_4 rfl rfl rfl ?_
    obtain ⟨_, hc2, rfl⟩ := hS 0 _ rfl
    refine J_get (pc := 5) (k := 0) dX6_number_5 kC7 (by decide) ff_X6_9 hc2 rfl ?_
    refine J_iload_n (pc := 8) dX6_number_8 rfl rfl ?_
    obtain ⟨_, hc3, xs3, rfl, hl3⟩ := hS 1 _ rfl
    refine J_iald (pc := 9) dX6_number_9 hc3 (nI_in (by omega) (by omega)) (J_absI fun x4 => ?_)
    refine J_aload_n (pc := 10) dX6_number_10 rfl rfl rfl ?_
    refine J_get (pc := 11) (k := 5) dX6_number_11 kC7 (by decide) ff_X6_41 hc2 rfl ?_
    refine J_callS0 (pc := 14) (M := mX6_number) (as := [.int x4, .int (nI n)]) dX6_number_14 fw_X2_numberOf fl_X6_75 fs_X2_numberOf rfl (c_X2_numberOf hs (d := d - 1) (by omega) (w := w) x4 n (by omega) (kc := 0) (ks := 0)) (by omega) (st := []) (Nat.le_of_ble_eq_true rfl) rfl (kr_P fun v5 hv5 => ?_) kx_I
    exact J_iret (pc := 17) dX6_number_17 rfl ⟨trivial, rfl⟩
  · exact JX_out (fun _ h => nomatch h) (by obtain ⟨h1, h2⟩ := hx1; exact ⟨h1, h2⟩)
set_option maxRecDepth 100000 in
set_option maxHeartbeats 4000000 in
theorem c_X6_goes {X : jX} (hs : X.1.stackTraces = false) {d : Nat} (hd : 12 ≤ d) {n : Nat} {e r q : Int32} (hn1 : 2 ≤ n) (hn2 : n ≤ 7) {w : List jC} (hS : SH (rX n e r q) w) (p0 : Int32) (p1 : Int32) {kc ks : Nat} (hkc : 2 ≤ kc) (hks : 12 ≤ ks) : jMet X mX6_goes d kc ks [.ref 0, .int p0, .int p1] w (pX (pI (fun v => ∃ k : Nat, v = nI k ∧ k < 8) (fun w' => w' = w)) (fun E w' => (E = "java/lang/IndexOutOfBoundsException") ∧ w' = w ++ [.inr (99, [])])) := by
  refine jMet_of hs (by decide +kernel) (Nat.le_of_ble_eq_true rfl) (L := [some (.ref 0), some (.int p0), some (.int p1)]) rfl ?_
  have hG : Fr kX w w := Fr.rf
  refine J_iload_n (pc := 0) dX6_goes_0 rfl rfl ?_
  refine J_callS (pc := 1) (M := mX6_goes) (as := [.int p0]) dX6_goes_1 fw_X6_needCell fl_X6_67 fs_X6_needCell rfl (c_X6_needCell hs (d := d - 1) (by omega) (w := w) p0 (kc := 1) (ks := 6) (Nat.le_refl _) (Nat.le_refl _)) (by omega) (by omega) (by omega) (st := []) (Nat.le_of_ble_eq_true rfl) rfl (kr_X (kr_V fun w1 hw1 => ?_)) (kx_X fun E1 w1 hx1 => ?_)
  · obtain ⟨hq1, hp1⟩ := hw1
    obtain rfl := hq1.symm
    obtain ⟨b1, hb1, rfl⟩ := hp1
    refine J_aload_n (pc := 4) dX6_goes_4 rfl rfl rfl ?_
    refine J_iload_n (pc := 5) dX6_goes_5 rfl rfl ?_
    obtain ⟨_, hc3, rfl⟩ := hS 0 _ rfl
    refine J_callV (pc := 6) (M := mX6_goes) (as := [.int p1]) dX6_goes_6 fw_X6_needPoint fl_X6_86 fm_X6_needPoint fe_X6_needPoint hc3 (by decide) rfl rfl rfl (c_X6_needPoint hs (d := d - 1) (by omega) (e := e) (r := r) (q := q) hn1 hn2 hS (w := w) p1 (kc := 1) (ks := 6) (Nat.le_refl _) (Nat.le_refl _)) (by omega) (by omega) (by omega) (st := []) (Nat.le_of_ble_eq_true rfl) rfl (kr_X (kr_V fun w2 hw2 => ?_)) (kx_X fun E2 w2 hx2 => ?_)
    · obtain ⟨hq2, hp2⟩ := hw2
      obtain rfl := hq2.symm
      obtain ⟨b2, hb2, rfl⟩ := hp2
      refine J_aload_n (pc := 9) dX6_goes_9 rfl rfl rfl ?_
      refine J_get (pc := 10) (k := 0) dX6_goes_10 kC7 (by decide) ff_X6_9 hc3 rfl ?_
      refine J_iload_n (pc := 13) dX6_goes_13 rfl rfl ?_
      obtain ⟨_, hc4, xs4, rfl, hl4⟩ := hS 1 _ rfl
      refine J_iald (pc := 14) dX6_goes_14 hc4 (nI_in (by omega) (by omega)) (J_absI fun x5 => ?_)
      refine J_iload_n (pc := 15) dX6_goes_15 rfl rfl ?_
      refine J_callS0 (pc := 16) (M := mX6_goes) (as := [.int x5, .int (nI b2)]) dX6_goes_16 fw_X2_goal fl_X6_144 fs_X2_goal rfl (c_X2_goal hs (d := d - 1) (by omega) (w := w) x5 (nI b2) (kc := 0) (ks := 0)) (by omega) (st := []) (Nat.le_of_ble_eq_true rfl) rfl (kr_P fun v6 hv6 => ?_) kx_I
      obtain ⟨k6, rfl, hk6⟩ := hv6
      exact J_iret (pc := 19) dX6_goes_19 rfl ⟨⟨k6, rfl, by omega⟩, rfl⟩
    · exact JX_out (fun _ h => nomatch h) (by obtain ⟨h1, h2⟩ := hx2; exact ⟨h1, h2⟩)
  · exact JX_out (fun _ h => nomatch h) (by obtain ⟨h1, h2⟩ := hx1; exact ⟨h1, h2⟩)
set_option maxRecDepth 100000 in
set_option maxHeartbeats 4000000 in
theorem c_X6_order {X : jX} (hs : X.1.stackTraces = false) {d : Nat} (hd : 12 ≤ d) {n : Nat} {e r q : Int32} (hn1 : 2 ≤ n) (hn2 : n ≤ 7) {w : List jC} (hS : SH (rX n e r q) w) (p0 : Int32) {kc ks : Nat} (hkc : 1 ≤ kc) (hks : 6 ≤ ks) : jMet X mX6_order d kc ks [.ref 0, .int p0] w (pX (pI (fun v => ∃ k : Nat, v = nI k ∧ k < 16) (fun w' => w' = w)) (fun E w' => (E = "java/lang/IndexOutOfBoundsException") ∧ w' = w ++ [.inr (99, [])])) := by
  refine jMet_of hs (by decide +kernel) (Nat.le_of_ble_eq_true rfl) (L := [some (.ref 0), some (.int p0)]) rfl ?_
  have hG : Fr kX w w := Fr.rf
  refine J_iload_n (pc := 0) dX6_order_0 rfl rfl ?_
  refine J_callS (pc := 1) (M := mX6_order) (as := [.int p0]) dX6_order_1 fw_X6_needCell fl_X6_67 fs_X6_needCell rfl (c_X6_needCell hs (d := d - 1) (by omega) (w := w) p0 (kc := 1) (ks := 6) (Nat.le_refl _) (Nat.le_refl _)) (by omega) (by omega) (by omega) (st := []) (Nat.le_of_ble_eq_true rfl) rfl (kr_X (kr_V fun w1 hw1 => ?_)) (kx_X fun E1 w1 hx1 => ?_)
  · obtain ⟨hq1, hp1⟩ := hw1
    obtain rfl := hq1.symm
    obtain ⟨b1, hb1, rfl⟩ := hp1
    refine J_aload_n (pc := 4) dX6_order_4 rfl rfl rfl ?_
    obtain ⟨_, hc2, rfl⟩ := hS 0 _ rfl
    refine J_get (pc := 5) (k := 0) dX6_order_5 kC7 (by decide) ff_X6_9 hc2 rfl ?_
    refine J_iload_n (pc := 8) dX6_order_8 rfl rfl ?_
    obtain ⟨_, hc3, xs3, rfl, hl3⟩ := hS 1 _ rfl
    refine J_iald (pc := 9) dX6_order_9 hc3 (nI_in (by omega) (by omega)) (J_absI fun x4 => ?_)
    refine J_callS0 (pc := 10) (M := mX6_order) (as := [.int x4]) dX6_order_10 fw_X2_orderOf fl_X6_164 fs_X2_orderOf rfl (c_X2_orderOf hs (d := d - 1) (by omega) (w := w) x4 (kc := 0) (ks := 0)) (by omega) (st := []) (Nat.le_of_ble_eq_true rfl) rfl (kr_P fun v5 hv5 => ?_) kx_I
    obtain ⟨k5, rfl, hk5⟩ := hv5
    exact J_iret (pc := 13) dX6_order_13 rfl ⟨⟨k5, rfl, by omega⟩, rfl⟩
  · exact JX_out (fun _ h => nomatch h) (by obtain ⟨h1, h2⟩ := hx1; exact ⟨h1, h2⟩)
set_option maxRecDepth 100000 in
set_option maxHeartbeats 4000000 in
theorem c_X6_sign {X : jX} (hs : X.1.stackTraces = false) {d : Nat} (hd : 12 ≤ d) {n : Nat} {e r q : Int32} (hn1 : 2 ≤ n) (hn2 : n ≤ 7) {w : List jC} (hS : SH (rX n e r q) w) (p0 : Int32) {kc ks : Nat} (hkc : 1 ≤ kc) (hks : 6 ≤ ks) : jMet X mX6_sign d kc ks [.ref 0, .int p0] w (pX (pI (fun _ => True) (fun w' => w' = w)) (fun E w' => (E = "java/lang/IndexOutOfBoundsException") ∧ w' = w ++ [.inr (99, [])])) := by
  refine jMet_of hs (by decide +kernel) (Nat.le_of_ble_eq_true rfl) (L := [some (.ref 0), some (.int p0)]) rfl ?_
  have hG : Fr kX w w := Fr.rf
  refine J_iload_n (pc := 0) dX6_sign_0 rfl rfl ?_
  refine J_callS (pc := 1) (M := mX6_sign) (as := [.int p0]) dX6_sign_1 fw_X6_needCell fl_X6_67 fs_X6_needCell rfl (c_X6_needCell hs (d := d - 1) (by omega) (w := w) p0 (kc := 1) (ks := 6) (Nat.le_refl _) (Nat.le_refl _)) (by omega) (by omega) (by omega) (st := []) (Nat.le_of_ble_eq_true rfl) rfl (kr_X (kr_V fun w1 hw1 => ?_)) (kx_X fun E1 w1 hx1 => ?_)
  · obtain ⟨hq1, hp1⟩ := hw1
    obtain rfl := hq1.symm
    obtain ⟨b1, hb1, rfl⟩ := hp1
    refine J_aload_n (pc := 4) dX6_sign_4 rfl rfl rfl ?_
    obtain ⟨_, hc2, rfl⟩ := hS 0 _ rfl
    refine J_get (pc := 5) (k := 0) dX6_sign_5 kC7 (by decide) ff_X6_9 hc2 rfl ?_
    refine J_iload_n (pc := 8) dX6_sign_8 rfl rfl ?_
    obtain ⟨_, hc3, xs3, rfl, hl3⟩ := hS 1 _ rfl
    refine J_iald (pc := 9) dX6_sign_9 hc3 (nI_in (by omega) (by omega)) (J_absI fun x4 => ?_)
    refine J_aload_n (pc := 10) dX6_sign_10 rfl rfl rfl ?_
    refine J_get (pc := 11) (k := 5) dX6_sign_11 kC7 (by decide) ff_X6_41 hc2 rfl ?_
    refine J_callS0 (pc := 14) (M := mX6_sign) (as := [.int x4, .int (nI n)]) dX6_sign_14 fw_X2_signOf fl_X6_167 fs_X2_signOf rfl (c_X2_signOf hs (d := d - 1) (by omega) (w := w) x4 n (by omega) (kc := 0) (ks := 0)) (by omega) (st := []) (Nat.le_of_ble_eq_true rfl) rfl (kr_P fun v5 hv5 => ?_) kx_I
    exact J_iret (pc := 17) dX6_sign_17 rfl ⟨trivial, rfl⟩
  · exact JX_out (fun _ h => nomatch h) (by obtain ⟨h1, h2⟩ := hx1; exact ⟨h1, h2⟩)
set_option maxRecDepth 100000 in
set_option maxHeartbeats 4000000 in
theorem c_X6_stays {X : jX} (hs : X.1.stackTraces = false) {d : Nat} (hd : 12 ≤ d) {n : Nat} {e r q : Int32} (hn1 : 2 ≤ n) (hn2 : n ≤ 7) {w : List jC} (hS : SH (rX n e r q) w) (p0 : Int32) {kc ks : Nat} (hkc : 1 ≤ kc) (hks : 6 ≤ ks) : jMet X mX6_stays d kc ks [.ref 0, .int p0] w (pX (pI (fun _ => True) (fun w' => w' = w)) (fun E w' => (E = "java/lang/IndexOutOfBoundsException") ∧ w' = w ++ [.inr (99, [])])) := by
  refine jMet_of hs (by decide +kernel) (Nat.le_of_ble_eq_true rfl) (L := [some (.ref 0), some (.int p0), none, none]) rfl ?_
  have hG : Fr kX w w := Fr.rf
  refine J_iload_n (pc := 0) dX6_stays_0 rfl rfl ?_
  refine J_callS (pc := 1) (M := mX6_stays) (as := [.int p0]) dX6_stays_1 fw_X6_needCell fl_X6_67 fs_X6_needCell rfl (c_X6_needCell hs (d := d - 1) (by omega) (w := w) p0 (kc := 1) (ks := 6) (Nat.le_refl _) (Nat.le_refl _)) (by omega) (by omega) (by omega) (st := []) (Nat.le_of_ble_eq_true rfl) rfl (kr_X (kr_V fun w1 hw1 => ?_)) (kx_X fun E1 w1 hx1 => ?_)
  · obtain ⟨hq1, hp1⟩ := hw1
    obtain rfl := hq1.symm
    obtain ⟨b1, hb1, rfl⟩ := hp1
    refine J_iconst (pc := 4) (v := nI 0) dX6_stays_4 (by decide) ?_
    refine J_istore_n (pc := 5) dX6_stays_5 rfl (by decide) rfl ?_
    show J X mX6_stays d (kc - 1) (ks - 6) 6 [some (.ref 0), some (.int (nI b1)), some (.int (nI 0)), none] [] w _
    refine J_iconst (pc := 6) (v := nI 0) dX6_stays_6 (by decide) ?_
    refine J_istore_n (pc := 7) dX6_stays_7 rfl (by decide) rfl ?_
    show J X mX6_stays d (kc - 1) (ks - 6) 8 [some (.ref 0), some (.int (nI b1)), some (.int (nI 0)), some (.int (nI 0))] [] w _
    have lp8_2 : ∀ (fuel : Nat) (z2 : Int32) (c3 : Nat), c3 < 2147483648 → 7 - c3 < fuel → J X mX6_stays d (kc - 1) (ks - 6) 8 [some (.ref 0), some (.int (nI b1)), some (.int z2), some (.int (nI c3))] [] w (pX (pI (fun _ => True) (fun w' => w' = w)) (fun E w' => (E = "java/lang/IndexOutOfBoundsException") ∧ w' = w ++ [.inr (99, [])])) := by
      intro fuellp8_2
      induction fuellp8_2 with
      | zero => intros; omega
      | succ fuellp8_2 ihlp8_2 =>
        intro z2 c3 hi3 hf4
        refine J_iload_n (pc := 8) dX6_stays_8 rfl rfl ?_
        refine J_aload_n (pc := 9) dX6_stays_9 rfl rfl rfl ?_
        obtain ⟨_, hc5, rfl⟩ := hS 0 _ rfl
        refine J_get (pc := 10) (k := 5) dX6_stays_10 kC7 (by decide) ff_X6_41 hc5 rfl ?_
        refine J_icmp_geN (pc := 13) (tgt := 42) dX6_stays_13 (by decide) (by omega) (by omega) (fun ht6 => ?_) (fun hf7 => ?_)
        · refine J_iload_n (pc := 42) dX6_stays_42 rfl rfl ?_
          exact J_iret (pc := 43) dX6_stays_43 rfl ⟨trivial, rfl⟩
        · refine J_aload_n (pc := 16) dX6_stays_16 rfl rfl rfl ?_
          refine J_get (pc := 17) (k := 0) dX6_stays_17 kC7 (by decide) ff_X6_9 hc5 rfl ?_
          refine J_iload_n (pc := 20) dX6_stays_20 rfl rfl ?_
          obtain ⟨_, hc8, xs8, rfl, hl8⟩ := hS 1 _ rfl
          refine J_iald (pc := 21) dX6_stays_21 hc8 (nI_in (by omega) (by omega)) (J_absI fun x9 => ?_)
          refine J_iload_n (pc := 22) dX6_stays_22 rfl rfl ?_
          refine J_callS0 (pc := 23) (M := mX6_stays) (as := [.int x9, .int (nI c3)]) dX6_stays_23 fw_X2_goal fl_X6_144 fs_X2_goal rfl (c_X2_goal hs (d := d - 1) (by omega) (w := w) x9 (nI c3) (kc := 0) (ks := 0)) (by omega) (st := []) (Nat.le_of_ble_eq_true rfl) rfl (kr_P fun v10 hv10 => ?_) kx_I
          obtain ⟨k10, rfl, hk10⟩ := hv10
          refine J_iload_n (pc := 26) dX6_stays_26 rfl rfl ?_
          refine J_icmp_neN (pc := 27) (tgt := 36) dX6_stays_27 (by decide) (by omega) (by omega) (fun ht11 => ?_) (fun hf12 => ?_)
          · refine J_iincN (pc := 36) (b := 1) dX6_stays_36 rfl (by decide) (by decide) rfl ?_
            show J X mX6_stays d (kc - 1) (ks - 6) 39 [some (.ref 0), some (.int (nI b1)), some (.int z2), some (.int (nI (c3 + 1)))] [] w _
            refine J_goto (pc := 39) (tgt := 8) dX6_stays_39 (by decide) ?_
            exact J_sub (L' := [some (.ref 0), some (.int (nI b1)), some (.int z2), some (.int (nI (c3 + 1)))]) ⟨rfl, ⟨rfl, ⟨rfl, ⟨rfl, trivial⟩⟩⟩⟩ (ihlp8_2 z2 (c3 + 1) (by first | assumption | omega) (by omega))
          · refine J_iload_n (pc := 30) dX6_stays_30 rfl rfl ?_
            refine J_iconst (pc := 31) (v := nI 1) dX6_stays_31 (by decide) ?_
            refine J_iload_n (pc := 32) dX6_stays_32 rfl rfl ?_
            refine J_ishl (pc := 33) dX6_stays_33 (J_absI fun x13 => ?_)
            refine J_ior (pc := 34) dX6_stays_34 (J_absI fun x14 => ?_)
            refine J_istore_n (pc := 35) dX6_stays_35 rfl (by decide) rfl ?_
            show J X mX6_stays d (kc - 1) (ks - 6) 36 [some (.ref 0), some (.int (nI b1)), some (.int x14), some (.int (nI c3))] [] w _
            refine J_iincN (pc := 36) (b := 1) dX6_stays_36 rfl (by decide) (by decide) rfl ?_
            show J X mX6_stays d (kc - 1) (ks - 6) 39 [some (.ref 0), some (.int (nI b1)), some (.int x14), some (.int (nI (c3 + 1)))] [] w _
            refine J_goto (pc := 39) (tgt := 8) dX6_stays_39 (by decide) ?_
            exact J_sub (L' := [some (.ref 0), some (.int (nI b1)), some (.int x14), some (.int (nI (c3 + 1)))]) ⟨rfl, ⟨rfl, ⟨rfl, ⟨rfl, trivial⟩⟩⟩⟩ (ihlp8_2 x14 (c3 + 1) (by first | assumption | omega) (by omega))
    exact J_sub (L' := [some (.ref 0), some (.int (nI b1)), some (.int (nI 0)), some (.int (nI 0))]) ⟨rfl, ⟨rfl, ⟨rfl, ⟨rfl, trivial⟩⟩⟩⟩ (lp8_2 _ (nI 0) 0 (by first | assumption | omega) (Nat.lt_succ_self _))
  · exact JX_out (fun _ h => nomatch h) (by obtain ⟨h1, h2⟩ := hx1; exact ⟨h1, h2⟩)
end
section
/-! contracts of the class -/
set_option maxRecDepth 100000 in
set_option maxHeartbeats 4000000 in
theorem c_X6_areAlike {X : jX} (hs : X.1.stackTraces = false) {d : Nat} (hd : 12 ≤ d) {n : Nat} {e r q : Int32} (hn1 : 2 ≤ n) (hn2 : n ≤ 7) {w : List jC} (hS : SH (rX n e r q) w) (p0 : Int32) (p1 : Int32) {kc ks : Nat} (hkc : 2 ≤ kc) (hks : 12 ≤ ks) : jMet X mX6_areAlike d kc ks [.ref 0, .int p0, .int p1] w (pX (pI (fun v => ∃ k : Nat, v = nI k ∧ k < 2) (fun w' => w' = w)) (fun E w' => (E = "java/lang/IndexOutOfBoundsException") ∧ w' = w ++ [.inr (99, [])])) := by
  refine jMet_of hs (by decide +kernel) (Nat.le_of_ble_eq_true rfl) (L := [some (.ref 0), some (.int p0), some (.int p1)]) rfl ?_
  have hG : Fr kX w w := Fr.rf
  refine J_iload_n (pc := 0) dX6_areAlike_0 rfl rfl ?_
  refine J_callS (pc := 1) (M := mX6_areAlike) (as := [.int p0]) dX6_areAlike_1 fw_X6_needCell fl_X6_67 fs_X6_needCell rfl (c_X6_needCell hs (d := d - 1) (by omega) (w := w) p0 (kc := 1) (ks := 6) (Nat.le_refl _) (Nat.le_refl _)) (by omega) (by omega) (by omega) (st := []) (Nat.le_of_ble_eq_true rfl) rfl (kr_X (kr_V fun w1 hw1 => ?_)) (kx_X fun E1 w1 hx1 => ?_)
  · obtain ⟨hq1, hp1⟩ := hw1
    obtain rfl := hq1.symm
    obtain ⟨b1, hb1, rfl⟩ := hp1
    refine J_iload_n (pc := 4) dX6_areAlike_4 rfl rfl ?_
    refine J_callS (pc := 5) (M := mX6_areAlike) (as := [.int p1]) dX6_areAlike_5 fw_X6_needCell fl_X6_67 fs_X6_needCell rfl (c_X6_needCell hs (d := d - 1) (by omega) (w := w) p1 (kc := 1) (ks := 6) (Nat.le_refl _) (Nat.le_refl _)) (by omega) (by omega) (by omega) (st := []) (Nat.le_of_ble_eq_true rfl) rfl (kr_X (kr_V fun w2 hw2 => ?_)) (kx_X fun E2 w2 hx2 => ?_)
    · obtain ⟨hq2, hp2⟩ := hw2
      obtain rfl := hq2.symm
      obtain ⟨b2, hb2, rfl⟩ := hp2
      refine J_aload_n (pc := 8) dX6_areAlike_8 rfl rfl rfl ?_
      obtain ⟨_, hc3, rfl⟩ := hS 0 _ rfl
      refine J_get (pc := 9) (k := 0) dX6_areAlike_9 kC7 (by decide) ff_X6_9 hc3 rfl ?_
      refine J_iload_n (pc := 12) dX6_areAlike_12 rfl rfl ?_
      obtain ⟨_, hc4, xs4, rfl, hl4⟩ := hS 1 _ rfl
      refine J_iald (pc := 13) dX6_areAlike_13 hc4 (nI_in (by omega) (by omega)) (J_absI fun x5 => ?_)
      refine J_aload_n (pc := 14) dX6_areAlike_14 rfl rfl rfl ?_
      refine J_get (pc := 15) (k := 0) dX6_areAlike_15 kC7 (by decide) ff_X6_9 hc3 rfl ?_
      refine J_iload_n (pc := 18) dX6_areAlike_18 rfl rfl ?_
      refine J_iald (pc := 19) dX6_areAlike_19 hc4 (nI_in (by omega) (by omega)) (J_absI fun x6 => ?_)
      refine J_callS0 (pc := 20) (M := mX6_areAlike) (as := [.int x5, .int x6]) dX6_areAlike_20 fw_X2_haveLikeRings fl_X6_120 fs_X2_haveLikeRings rfl (c_X2_haveLikeRings hs (d := d - 1) (by omega) (w := w) x5 x6 (kc := 0) (ks := 0)) (by omega) (st := []) (Nat.le_of_ble_eq_true rfl) rfl (kr_P fun v7 hv7 => ?_) kx_I
      obtain ⟨k7, rfl, hk7⟩ := hv7
      exact J_zret (pc := 23) dX6_areAlike_23 rfl (nar_b (by omega)) ⟨⟨k7, rfl, by omega⟩, rfl⟩
    · exact JX_out (fun _ h => nomatch h) (by obtain ⟨h1, h2⟩ := hx2; exact ⟨h1, h2⟩)
  · exact JX_out (fun _ h => nomatch h) (by obtain ⟨h1, h2⟩ := hx1; exact ⟨h1, h2⟩)
set_option maxRecDepth 100000 in
set_option maxHeartbeats 4000000 in
theorem c_X6_commute {X : jX} (hs : X.1.stackTraces = false) {d : Nat} (hd : 12 ≤ d) {n : Nat} {e r q : Int32} (hn1 : 2 ≤ n) (hn2 : n ≤ 7) {w : List jC} (hS : SH (rX n e r q) w) (p0 : Int32) (p1 : Int32) {kc ks : Nat} (hkc : 2 ≤ kc) (hks : 12 ≤ ks) : jMet X mX6_commute d kc ks [.ref 0, .int p0, .int p1] w (pX (pI (fun v => ∃ k : Nat, v = nI k ∧ k < 2) (fun w' => w' = w)) (fun E w' => (E = "java/lang/IndexOutOfBoundsException") ∧ w' = w ++ [.inr (99, [])])) := by
  refine jMet_of hs (by decide +kernel) (Nat.le_of_ble_eq_true rfl) (L := [some (.ref 0), some (.int p0), some (.int p1)]) rfl ?_
  have hG : Fr kX w w := Fr.rf
  refine J_iload_n (pc := 0) dX6_commute_0 rfl rfl ?_
  refine J_callS (pc := 1) (M := mX6_commute) (as := [.int p0]) dX6_commute_1 fw_X6_needCell fl_X6_67 fs_X6_needCell rfl (c_X6_needCell hs (d := d - 1) (by omega) (w := w) p0 (kc := 1) (ks := 6) (Nat.le_refl _) (Nat.le_refl _)) (by omega) (by omega) (by omega) (st := []) (Nat.le_of_ble_eq_true rfl) rfl (kr_X (kr_V fun w1 hw1 => ?_)) (kx_X fun E1 w1 hx1 => ?_)
  · obtain ⟨hq1, hp1⟩ := hw1
    obtain rfl := hq1.symm
    obtain ⟨b1, hb1, rfl⟩ := hp1
    refine J_iload_n (pc := 4) dX6_commute_4 rfl rfl ?_
    refine J_callS (pc := 5) (M := mX6_commute) (as := [.int p1]) dX6_commute_5 fw_X6_needCell fl_X6_67 fs_X6_needCell rfl (c_X6_needCell hs (d := d - 1) (by omega) (w := w) p1 (kc := 1) (ks := 6) (Nat.le_refl _) (Nat.le_refl _)) (by omega) (by omega) (by omega) (st := []) (Nat.le_of_ble_eq_true rfl) rfl (kr_X (kr_V fun w2 hw2 => ?_)) (kx_X fun E2 w2 hx2 => ?_)
    · obtain ⟨hq2, hp2⟩ := hw2
      obtain rfl := hq2.symm
      obtain ⟨b2, hb2, rfl⟩ := hp2
      refine J_aload_n (pc := 8) dX6_commute_8 rfl rfl rfl ?_
      obtain ⟨_, hc3, rfl⟩ := hS 0 _ rfl
      refine J_get (pc := 9) (k := 0) dX6_commute_9 kC7 (by decide) ff_X6_9 hc3 rfl ?_
      refine J_iload_n (pc := 12) dX6_commute_12 rfl rfl ?_
      obtain ⟨_, hc4, xs4, rfl, hl4⟩ := hS 1 _ rfl
      refine J_iald (pc := 13) dX6_commute_13 hc4 (nI_in (by omega) (by omega)) (J_absI fun x5 => ?_)
      refine J_aload_n (pc := 14) dX6_commute_14 rfl rfl rfl ?_
      refine J_get (pc := 15) (k := 0) dX6_commute_15 kC7 (by decide) ff_X6_9 hc3 rfl ?_
      refine J_iload_n (pc := 18) dX6_commute_18 rfl rfl ?_
      refine J_iald (pc := 19) dX6_commute_19 hc4 (nI_in (by omega) (by omega)) (J_absI fun x6 => ?_)
      refine J_callS0 (pc := 20) (M := mX6_commute) (as := [.int x5, .int x6]) dX6_commute_20 fw_X2_both fl_X6_93 fs_X2_both rfl (c_X2_both hs (d := d - 1) (by omega) (w := w) x5 x6 (kc := 0) (ks := 0)) (by omega) (st := []) (Nat.le_of_ble_eq_true rfl) rfl (kr_P fun v7 hv7 => ?_) kx_I
      refine J_aload_n (pc := 23) dX6_commute_23 rfl rfl rfl ?_
      refine J_get (pc := 24) (k := 0) dX6_commute_24 kC7 (by decide) ff_X6_9 hc3 rfl ?_
      refine J_iload_n (pc := 27) dX6_commute_27 rfl rfl ?_
      refine J_iald (pc := 28) dX6_commute_28 hc4 (nI_in (by omega) (by omega)) (J_absI fun x8 => ?_)
      refine J_aload_n (pc := 29) dX6_commute_29 rfl rfl rfl ?_
      refine J_get (pc := 30) (k := 0) dX6_commute_30 kC7 (by decide) ff_X6_9 hc3 rfl ?_
      refine J_iload_n (pc := 33) dX6_commute_33 rfl rfl ?_
      refine J_iald (pc := 34) dX6_commute_34 hc4 (nI_in (by omega) (by omega)) (J_absI fun x9 => ?_)
      refine J_callS0 (pc := 35) (M := mX6_commute) (as := [.int x8, .int x9]) dX6_commute_35 fw_X2_both fl_X6_93 fs_X2_both rfl (c_X2_both hs (d := d - 1) (by omega) (w := w) x8 x9 (kc := 0) (ks := 0)) (by omega) (st := [.int v7]) (Nat.le_of_ble_eq_true rfl) rfl (kr_P fun v10 hv10 => ?_) kx_I
      refine J_icmp_ne (pc := 38) (tgt := 45) dX6_commute_38 (by decide) (fun ht11 => ?_) (fun hf12 => ?_)
      · refine J_iconst (pc := 45) (v := nI 0) dX6_commute_45 (by decide) ?_
        exact J_zret (pc := 46) dX6_commute_46 rfl (nar_b (by omega)) ⟨⟨0, rfl, by omega⟩, rfl⟩
      · refine J_iconst (pc := 41) (v := nI 1) dX6_commute_41 (by decide) ?_
        refine J_goto (pc := 42) (tgt := 46) dX6_commute_42 (by decide) ?_
        exact J_zret (pc := 46) dX6_commute_46 rfl (nar_b (by omega)) ⟨⟨1, rfl, by omega⟩, rfl⟩
    · exact JX_out (fun _ h => nomatch h) (by obtain ⟨h1, h2⟩ := hx2; exact ⟨h1, h2⟩)
  · exact JX_out (fun _ h => nomatch h) (by obtain ⟨h1, h2⟩ := hx1; exact ⟨h1, h2⟩)
set_option maxRecDepth 100000 in
set_option maxHeartbeats 4000000 in
theorem c_X6_size {X : jX} (hs : X.1.stackTraces = false) {d : Nat} (hd : 14 ≤ d) {n : Nat} {e r q : Int32} (hn1 : 2 ≤ n) (hn2 : n ≤ 7) {w : List jC} (hS : SH (rX n e r q) w) (p0 : Int32) (p1 : Int32) {kc ks : Nat} (hkc : 2 ≤ kc) (hks : 12 ≤ ks) : jMet X mX6_size d kc ks [.ref 0, .int p0, .int p1] w (pX (pI (fun _ => True) (fun w' => rS n e r q w w')) (fun E w' => (E = "java/lang/IndexOutOfBoundsException" ∨ E = "java/lang/IllegalArgumentException") ∧ rS n e r q w w')) := by
  refine jMet_of hs (by decide +kernel) (Nat.le_of_ble_eq_true rfl) (L := [some (.ref 0), some (.int p0), some (.int p1)]) rfl ?_
  have hG : Fr kX w w := Fr.rf
  refine J_iload_n (pc := 0) dX6_size_0 rfl rfl ?_
  refine J_callS (pc := 1) (M := mX6_size) (as := [.int p1]) dX6_size_1 fw_X6_needCell fl_X6_67 fs_X6_needCell rfl (c_X6_needCell hs (d := d - 1) (by omega) (w := w) p1 (kc := 1) (ks := 6) (Nat.le_refl _) (Nat.le_refl _)) (by omega) (by omega) (by omega) (st := []) (Nat.le_of_ble_eq_true rfl) rfl (kr_X (kr_V fun w1 hw1 => ?_)) (kx_X fun E1 w1 hx1 => ?_)
  · obtain ⟨hq1, hp1⟩ := hw1
    obtain rfl := hq1.symm
    obtain ⟨b1, hb1, rfl⟩ := hp1
    refine J_iload_n (pc := 4) dX6_size_4 rfl rfl ?_
    refine J_callS (pc := 5) (M := mX6_size) (as := [.int p0]) dX6_size_5 fw_X6_needSet fl_X6_131 fs_X6_needSet rfl (c_X6_needSet hs (d := d - 1) (by omega) (w := w) p0 (kc := 1) (ks := 6) (Nat.le_refl _) (Nat.le_refl _)) (by omega) (by omega) (by omega) (st := []) (Nat.le_of_ble_eq_true rfl) rfl (kr_X (kr_V fun w2 hw2 => ?_)) (kx_X fun E2 w2 hx2 => ?_)
    · obtain rfl := hw2.symm
      refine J_aload_n (pc := 8) dX6_size_8 rfl rfl rfl ?_
      obtain ⟨_, hc3, rfl⟩ := hS 0 _ rfl
      refine J_get (pc := 9) (k := 1) dX6_size_9 kC7 (by decide) ff_X6_16 hc3 rfl ?_
      refine J_aload_n (pc := 12) dX6_size_12 rfl rfl rfl ?_
      refine J_get (pc := 13) (k := 0) dX6_size_13 kC7 (by decide) ff_X6_9 hc3 rfl ?_
      refine J_iload_n (pc := 16) dX6_size_16 rfl rfl ?_
      refine J_aload_n (pc := 17) dX6_size_17 rfl rfl rfl ?_
      refine J_get (pc := 18) (k := 0) dX6_size_18 kC7 (by decide) ff_X6_9 hc3 rfl ?_
      refine J_iload_n (pc := 21) dX6_size_21 rfl rfl ?_
      obtain ⟨_, hc4, xs4, rfl, hl4⟩ := hS 1 _ rfl
      refine J_iald (pc := 22) dX6_size_22 hc4 (nI_in (by omega) (by omega)) (J_absI fun x5 => ?_)
      refine J_aload_n (pc := 23) dX6_size_23 rfl rfl rfl ?_
      refine J_get (pc := 24) (k := 5) dX6_size_24 kC7 (by decide) ff_X6_41 hc3 rfl ?_
      obtain ⟨_, hc7, ka7, kf7, kb7, kg7, rfl, hb7_0, hb7_1⟩ := hS 2 _ rfl
      refine J_callV0 (pc := 27) (M := mX6_size) (as := [.ref 1, .int p0, .int x5, .int (nI n)]) dX6_size_27 fw_X0_raise fl_X6_134 fm_X0_raise fe_X0_raise hc7 (by decide) rfl rfl rfl (c_X0_raise hs (d := d - 1) (by omega) (e := e) (r := r) (q := q) hn1 hn2 hS (w := w) p0 x5 (kc := 0) (ks := 0)) (by omega) (st := []) (Nat.le_of_ble_eq_true rfl) rfl (kr_V fun w6 hw6 => ?_) kx_V
      obtain ⟨hS6, hF6⟩ := hw6
      have hG6 := hG.tr hF6
      refine J_aload_n (pc := 30) dX6_size_30 rfl rfl rfl ?_
      obtain ⟨_, hc8, rfl⟩ := hS6 0 _ rfl
      refine J_get (pc := 31) (k := 1) dX6_size_31 kC7 (by decide) ff_X6_16 hc8 rfl ?_
      obtain ⟨_, hc10, ka10, kf10, kb10, kg10, rfl, hb10_0, hb10_1⟩ := hS6 2 _ rfl
      refine J_callV0 (pc := 34) (M := mX6_size) (as := []) dX6_size_34 fw_X0_total fl_X6_138 fm_X0_total fe_X0_total hc10 (by decide) rfl rfl rfl (c_X0_total hs (d := d - 1) (by omega) (e := e) (r := r) (q := q) hn1 hn2 hS6 (w := w6)  (kc := 0) (ks := 0)) (by omega) (st := []) (Nat.le_of_ble_eq_true rfl) rfl (kr_P fun v9 hv9 => ?_) kx_I
      exact J_iret (pc := 37) dX6_size_37 rfl ⟨trivial, ⟨hS6, hG6⟩⟩
    · exact JX_out (fun _ h => nomatch h) (by obtain ⟨h1, h2⟩ := hx2; exact ⟨Or.inr h1, by subst h2; exact ⟨hS.push, hG.tr Fr.push⟩⟩)
  · exact JX_out (fun _ h => nomatch h) (by obtain ⟨h1, h2⟩ := hx1; exact ⟨Or.inl h1, by subst h2; exact ⟨hS.push, hG.tr Fr.push⟩⟩)
end
section
/-! contracts of the class -/
set_option maxRecDepth 100000 in
set_option maxHeartbeats 4000000 in
theorem c_X6_reach {X : jX} (hs : X.1.stackTraces = false) {d : Nat} (hd : 14 ≤ d) {n : Nat} {e r q : Int32} (hn1 : 2 ≤ n) (hn2 : n ≤ 7) {w : List jC} (hS : SH (rX n e r q) w) (p0 : Int32) (p1 : Int32) (p2 : Int32) {kc ks : Nat} (hkc : 3 ≤ kc) (hks : 18 ≤ ks) : jMet X mX6_reach d kc ks [.ref 0, .int p0, .int p1, .int p2] w (pX (pI (fun _ => True) (fun w' => rS n e r q w w')) (fun E w' => (E = "java/lang/IndexOutOfBoundsException" ∨ E = "java/lang/IllegalArgumentException") ∧ rS n e r q w w')) := by
  refine jMet_of hs (by decide +kernel) (Nat.le_of_ble_eq_true rfl) (L := [some (.ref 0), some (.int p0), some (.int p1), some (.int p2)]) rfl ?_
  have hG : Fr kX w w := Fr.rf
  refine J_iload_n (pc := 0) dX6_reach_0 rfl rfl ?_
  refine J_callS (pc := 1) (M := mX6_reach) (as := [.int p1]) dX6_reach_1 fw_X6_needCell fl_X6_67 fs_X6_needCell rfl (c_X6_needCell hs (d := d - 1) (by omega) (w := w) p1 (kc := 1) (ks := 6) (Nat.le_refl _) (Nat.le_refl _)) (by omega) (by omega) (by omega) (st := []) (Nat.le_of_ble_eq_true rfl) rfl (kr_X (kr_V fun w1 hw1 => ?_)) (kx_X fun E1 w1 hx1 => ?_)
  · obtain ⟨hq1, hp1⟩ := hw1
    obtain rfl := hq1.symm
    obtain ⟨b1, hb1, rfl⟩ := hp1
    refine J_aload_n (pc := 4) dX6_reach_4 rfl rfl rfl ?_
    refine J_iload_n (pc := 5) dX6_reach_5 rfl rfl ?_
    obtain ⟨_, hc3, rfl⟩ := hS 0 _ rfl
    refine J_callV (pc := 6) (M := mX6_reach) (as := [.int p2]) dX6_reach_6 fw_X6_needPoint fl_X6_86 fm_X6_needPoint fe_X6_needPoint hc3 (by decide) rfl rfl rfl (c_X6_needPoint hs (d := d - 1) (by omega) (e := e) (r := r) (q := q) hn1 hn2 hS (w := w) p2 (kc := 1) (ks := 6) (Nat.le_refl _) (Nat.le_refl _)) (by omega) (by omega) (by omega) (st := []) (Nat.le_of_ble_eq_true rfl) rfl (kr_X (kr_V fun w2 hw2 => ?_)) (kx_X fun E2 w2 hx2 => ?_)
    · obtain ⟨hq2, hp2⟩ := hw2
      obtain rfl := hq2.symm
      obtain ⟨b2, hb2, rfl⟩ := hp2
      refine J_iload_n (pc := 9) dX6_reach_9 rfl rfl ?_
      refine J_callS (pc := 10) (M := mX6_reach) (as := [.int p0]) dX6_reach_10 fw_X6_needSet fl_X6_131 fs_X6_needSet rfl (c_X6_needSet hs (d := d - 1) (by omega) (w := w) p0 (kc := 1) (ks := 6) (Nat.le_refl _) (Nat.le_refl _)) (by omega) (by omega) (by omega) (st := []) (Nat.le_of_ble_eq_true rfl) rfl (kr_X (kr_V fun w4 hw4 => ?_)) (kx_X fun E4 w4 hx4 => ?_)
      · obtain rfl := hw4.symm
        refine J_aload_n (pc := 13) dX6_reach_13 rfl rfl rfl ?_
        refine J_get (pc := 14) (k := 1) dX6_reach_14 kC7 (by decide) ff_X6_16 hc3 rfl ?_
        refine J_aload_n (pc := 17) dX6_reach_17 rfl rfl rfl ?_
        refine J_get (pc := 18) (k := 0) dX6_reach_18 kC7 (by decide) ff_X6_9 hc3 rfl ?_
        refine J_iload_n (pc := 21) dX6_reach_21 rfl rfl ?_
        refine J_aload_n (pc := 22) dX6_reach_22 rfl rfl rfl ?_
        refine J_get (pc := 23) (k := 0) dX6_reach_23 kC7 (by decide) ff_X6_9 hc3 rfl ?_
        refine J_iload_n (pc := 26) dX6_reach_26 rfl rfl ?_
        obtain ⟨_, hc5, xs5, rfl, hl5⟩ := hS 1 _ rfl
        refine J_iald (pc := 27) dX6_reach_27 hc5 (nI_in (by omega) (by omega)) (J_absI fun x6 => ?_)
        refine J_aload_n (pc := 28) dX6_reach_28 rfl rfl rfl ?_
        refine J_get (pc := 29) (k := 5) dX6_reach_29 kC7 (by decide) ff_X6_41 hc3 rfl ?_
        obtain ⟨_, hc8, ka8, kf8, kb8, kg8, rfl, hb8_0, hb8_1⟩ := hS 2 _ rfl
        refine J_callV0 (pc := 32) (M := mX6_reach) (as := [.ref 1, .int p0, .int x6, .int (nI n)]) dX6_reach_32 fw_X0_raise fl_X6_134 fm_X0_raise fe_X0_raise hc8 (by decide) rfl rfl rfl (c_X0_raise hs (d := d - 1) (by omega) (e := e) (r := r) (q := q) hn1 hn2 hS (w := w) p0 x6 (kc := 0) (ks := 0)) (by omega) (st := []) (Nat.le_of_ble_eq_true rfl) rfl (kr_V fun w7 hw7 => ?_) kx_V
        obtain ⟨hS7, hF7⟩ := hw7
        have hG7 := hG.tr hF7
        refine J_aload_n (pc := 35) dX6_reach_35 rfl rfl rfl ?_
        obtain ⟨_, hc9, rfl⟩ := hS7 0 _ rfl
        refine J_get (pc := 36) (k := 1) dX6_reach_36 kC7 (by decide) ff_X6_16 hc9 rfl ?_
        refine J_iload_n (pc := 39) dX6_reach_39 rfl rfl ?_
        obtain ⟨_, hc11, ka11, kf11, kb11, kg11, rfl, hb11_0, hb11_1⟩ := hS7 2 _ rfl
        refine J_callV0 (pc := 40) (M := mX6_reach) (as := [.int (nI b2)]) dX6_reach_40 fw_X0_reachAt fl_X6_170 fm_X0_reachAt fe_X0_reachAt hc11 (by decide) rfl rfl rfl (c_X0_reachAt hs (d := d - 1) (by omega) (e := e) (r := r) (q := q) hn1 hn2 hS7 (w := w7) (nI b2) (kc := 0) (ks := 0)) (by omega) (st := []) (Nat.le_of_ble_eq_true rfl) rfl (kr_P fun v10 hv10 => ?_) kx_I
        exact J_iret (pc := 43) dX6_reach_43 rfl ⟨trivial, ⟨hS7, hG7⟩⟩
      · exact JX_out (fun _ h => nomatch h) (by obtain ⟨h1, h2⟩ := hx4; exact ⟨Or.inr h1, by subst h2; exact ⟨hS.push, hG.tr Fr.push⟩⟩)
    · exact JX_out (fun _ h => nomatch h) (by obtain ⟨h1, h2⟩ := hx2; exact ⟨Or.inl h1, by subst h2; exact ⟨hS.push, hG.tr Fr.push⟩⟩)
  · exact JX_out (fun _ h => nomatch h) (by obtain ⟨h1, h2⟩ := hx1; exact ⟨Or.inl h1, by subst h2; exact ⟨hS.push, hG.tr Fr.push⟩⟩)
set_option maxRecDepth 100000 in
set_option maxHeartbeats 4000000 in
theorem c_X6_isIn {X : jX} (hs : X.1.stackTraces = false) {d : Nat} (hd : 14 ≤ d) {n : Nat} {e r q : Int32} (hn1 : 2 ≤ n) (hn2 : n ≤ 7) {w : List jC} (hS : SH (rX n e r q) w) (p0 : Int32) (p1 : Int32) (p2 : Int32) {kc ks : Nat} (hkc : 3 ≤ kc) (hks : 18 ≤ ks) : jMet X mX6_isIn d kc ks [.ref 0, .int p0, .int p1, .int p2] w (pX (pI (fun v => ∃ k : Nat, v = nI k ∧ k < 2) (fun w' => rS n e r q w w')) (fun E w' => (E = "java/lang/IndexOutOfBoundsException" ∨ E = "java/lang/IllegalArgumentException") ∧ rS n e r q w w')) := by
  refine jMet_of hs (by decide +kernel) (Nat.le_of_ble_eq_true rfl) (L := [some (.ref 0), some (.int p0), some (.int p1), some (.int p2)]) rfl ?_
  have hG : Fr kX w w := Fr.rf
  refine J_iload_n (pc := 0) dX6_isIn_0 rfl rfl ?_
  refine J_callS (pc := 1) (M := mX6_isIn) (as := [.int p1]) dX6_isIn_1 fw_X6_needCell fl_X6_67 fs_X6_needCell rfl (c_X6_needCell hs (d := d - 1) (by omega) (w := w) p1 (kc := 1) (ks := 6) (Nat.le_refl _) (Nat.le_refl _)) (by omega) (by omega) (by omega) (st := []) (Nat.le_of_ble_eq_true rfl) rfl (kr_X (kr_V fun w1 hw1 => ?_)) (kx_X fun E1 w1 hx1 => ?_)
  · obtain ⟨hq1, hp1⟩ := hw1
    obtain rfl := hq1.symm
    obtain ⟨b1, hb1, rfl⟩ := hp1
    refine J_iload_n (pc := 4) dX6_isIn_4 rfl rfl ?_
    refine J_callS (pc := 5) (M := mX6_isIn) (as := [.int p0]) dX6_isIn_5 fw_X6_needSet fl_X6_131 fs_X6_needSet rfl (c_X6_needSet hs (d := d - 1) (by omega) (w := w) p0 (kc := 1) (ks := 6) (Nat.le_refl _) (Nat.le_refl _)) (by omega) (by omega) (by omega) (st := []) (Nat.le_of_ble_eq_true rfl) rfl (kr_X (kr_V fun w2 hw2 => ?_)) (kx_X fun E2 w2 hx2 => ?_)
    · obtain rfl := hw2.symm
      refine J_iload_n (pc := 8) dX6_isIn_8 rfl rfl ?_
      refine J_iconst (pc := 9) (v := nI 0) dX6_isIn_9 (by decide) ?_
      refine J_iconst (pc := 10) (v := nI 1) dX6_isIn_10 (by decide) ?_
      refine J_callS (pc := 11) (M := mX6_isIn) (as := [.int p2, .int (nI 0), .int (nI 1)]) dX6_isIn_11 fw_X6_needBetween fl_X6_63 fs_X6_needBetween rfl (c_X6_needBetween hs (d := d - 1) (by omega) (w := w) p2 (nI 0) (nI 1) (kc := 1) (ks := 6) (Nat.le_refl _) (Nat.le_refl _)) (by omega) (by omega) (by omega) (st := []) (Nat.le_of_ble_eq_true rfl) rfl (kr_X (kr_V fun w3 hw3 => ?_)) (kx_X fun E3 w3 hx3 => ?_)
      · obtain ⟨hq3, hpa3, hpb3⟩ := hw3
        obtain rfl := hq3.symm
        obtain ⟨b3, hb3, hc3, rfl⟩ := nI_btw hpa3 hpb3 (by omega) (by omega)
        refine J_iload_n (pc := 14) dX6_isIn_14 rfl rfl ?_
        refine J_if_neN (pc := 15) (tgt := 50) dX6_isIn_15 (by decide) (by omega) (fun ht4 => ?_) (fun hf5 => ?_)
        · refine J_aload_n (pc := 50) dX6_isIn_50 rfl rfl rfl ?_
          obtain ⟨_, hc6, rfl⟩ := hS 0 _ rfl
          refine J_get (pc := 51) (k := 2) dX6_isIn_51 kC7 (by decide) ff_X6_23 hc6 rfl ?_
          refine J_aload_n (pc := 54) dX6_isIn_54 rfl rfl rfl ?_
          refine J_get (pc := 55) (k := 0) dX6_isIn_55 kC7 (by decide) ff_X6_9 hc6 rfl ?_
          refine J_iload_n (pc := 58) dX6_isIn_58 rfl rfl ?_
          refine J_aload_n (pc := 59) dX6_isIn_59 rfl rfl rfl ?_
          refine J_get (pc := 60) (k := 5) dX6_isIn_60 kC7 (by decide) ff_X6_41 hc6 rfl ?_
          obtain ⟨_, hc8, ka8, rfl, hb8_0⟩ := hS 8 _ rfl
          refine J_callV0 (pc := 63) (M := mX6_isIn) (as := [.ref 1, .int p0, .int (nI n)]) dX6_isIn_63 fw_X5_goThrough fl_X6_177 fm_X5_goThrough fe_X5_goThrough hc8 (by decide) rfl rfl rfl (c_X5_goThrough hs (d := d - 1) (by omega) (e := e) (r := r) (q := q) hn1 hn2 hS (w := w) p0 (kc := 0) (ks := 0)) (by omega) (st := []) (Nat.le_of_ble_eq_true rfl) rfl (kr_V fun w7 hw7 => ?_) kx_V
          obtain ⟨hS7, hF7⟩ := hw7
          have hG7 := hG.tr hF7
          refine J_aload_n (pc := 66) dX6_isIn_66 rfl rfl rfl ?_
          obtain ⟨_, hc9, rfl⟩ := hS7 0 _ rfl
          refine J_get (pc := 67) (k := 2) dX6_isIn_67 kC7 (by decide) ff_X6_23 hc9 rfl ?_
          refine J_aload_n (pc := 70) dX6_isIn_70 rfl rfl rfl ?_
          refine J_get (pc := 71) (k := 0) dX6_isIn_71 kC7 (by decide) ff_X6_9 hc9 rfl ?_
          refine J_iload_n (pc := 74) dX6_isIn_74 rfl rfl ?_
          obtain ⟨_, hc10, xs10, rfl, hl10⟩ := hS7 1 _ rfl
          refine J_iald (pc := 75) dX6_isIn_75 hc10 (nI_in (by omega) (by omega)) (J_absI fun x11 => ?_)
          obtain ⟨_, hc13, ka13, rfl, hb13_0⟩ := hS7 8 _ rfl
          refine J_callV0 (pc := 76) (M := mX6_isIn) (as := [.int x11]) dX6_isIn_76 fw_X5_meets fl_X6_181 fm_X5_meets fe_X5_meets hc13 (by decide) rfl rfl rfl (c_X5_meets hs (d := d - 1) (by omega) (e := e) (r := r) (q := q) hn1 hn2 hS7 (w := w7) x11 (kc := 0) (ks := 0)) (by omega) (st := []) (Nat.le_of_ble_eq_true rfl) rfl (kr_P fun v12 hv12 => ?_) kx_I
          obtain ⟨k12, rfl, hk12⟩ := hv12
          exact J_zret (pc := 79) dX6_isIn_79 rfl (nar_b (by omega)) ⟨⟨k12, rfl, by omega⟩, ⟨hS7, hG7⟩⟩
        · refine J_aload_n (pc := 18) dX6_isIn_18 rfl rfl rfl ?_
          obtain ⟨_, hc14, rfl⟩ := hS 0 _ rfl
          refine J_get (pc := 19) (k := 1) dX6_isIn_19 kC7 (by decide) ff_X6_16 hc14 rfl ?_
          refine J_aload_n (pc := 22) dX6_isIn_22 rfl rfl rfl ?_
          refine J_get (pc := 23) (k := 0) dX6_isIn_23 kC7 (by decide) ff_X6_9 hc14 rfl ?_
          refine J_iload_n (pc := 26) dX6_isIn_26 rfl rfl ?_
          refine J_ldc (pc := 27) (v := nI 1754760) dX6_isIn_27 (by have := fk_X6_56; exact this) ?_
          refine J_aload_n (pc := 29) dX6_isIn_29 rfl rfl rfl ?_
          refine J_get (pc := 30) (k := 5) dX6_isIn_30 kC7 (by decide) ff_X6_41 hc14 rfl ?_
          obtain ⟨_, hc16, ka16, kf16, kb16, kg16, rfl, hb16_0, hb16_1⟩ := hS 2 _ rfl
          refine J_callV0 (pc := 33) (M := mX6_isIn) (as := [.ref 1, .int p0, .int (nI 1754760), .int (nI n)]) dX6_isIn_33 fw_X0_raise fl_X6_134 fm_X0_raise fe_X0_raise hc16 (by decide) rfl rfl rfl (c_X0_raise hs (d := d - 1) (by omega) (e := e) (r := r) (q := q) hn1 hn2 hS (w := w) p0 (nI 1754760) (kc := 0) (ks := 0)) (by omega) (st := []) (Nat.le_of_ble_eq_true rfl) rfl (kr_V fun w15 hw15 => ?_) kx_V
          obtain ⟨hS15, hF15⟩ := hw15
          have hG15 := hG.tr hF15
          refine J_aload_n (pc := 36) dX6_isIn_36 rfl rfl rfl ?_
          obtain ⟨_, hc17, rfl⟩ := hS15 0 _ rfl
          refine J_get (pc := 37) (k := 1) dX6_isIn_37 kC7 (by decide) ff_X6_16 hc17 rfl ?_
          refine J_aload_n (pc := 40) dX6_isIn_40 rfl rfl rfl ?_
          refine J_get (pc := 41) (k := 0) dX6_isIn_41 kC7 (by decide) ff_X6_9 hc17 rfl ?_
          refine J_iload_n (pc := 44) dX6_isIn_44 rfl rfl ?_
          obtain ⟨_, hc18, xs18, rfl, hl18⟩ := hS15 1 _ rfl
          refine J_iald (pc := 45) dX6_isIn_45 hc18 (nI_in (by omega) (by omega)) (J_absI fun x19 => ?_)
          obtain ⟨_, hc21, ka21, kf21, kb21, kg21, rfl, hb21_0, hb21_1⟩ := hS15 2 _ rfl
          refine J_callV0 (pc := 46) (M := mX6_isIn) (as := [.int x19]) dX6_isIn_46 fw_X0_holds fl_X6_173 fm_X0_holds fe_X0_holds hc21 (by decide) rfl rfl rfl (c_X0_holds hs (d := d - 1) (by omega) (e := e) (r := r) (q := q) hn1 hn2 hS15 (w := w15) x19 (kc := 0) (ks := 0)) (by omega) (st := []) (Nat.le_of_ble_eq_true rfl) rfl (kr_P fun v20 hv20 => ?_) kx_I
          obtain ⟨k20, rfl, hk20⟩ := hv20
          exact J_zret (pc := 49) dX6_isIn_49 rfl (nar_b (by omega)) ⟨⟨k20, rfl, by omega⟩, ⟨hS15, hG15⟩⟩
      · exact JX_out (fun _ h => nomatch h) (by obtain ⟨h1, h2⟩ := hx3; exact ⟨Or.inr h1, by subst h2; exact ⟨hS.push, hG.tr Fr.push⟩⟩)
    · exact JX_out (fun _ h => nomatch h) (by obtain ⟨h1, h2⟩ := hx2; exact ⟨Or.inr h1, by subst h2; exact ⟨hS.push, hG.tr Fr.push⟩⟩)
  · exact JX_out (fun _ h => nomatch h) (by obtain ⟨h1, h2⟩ := hx1; exact ⟨Or.inl h1, by subst h2; exact ⟨hS.push, hG.tr Fr.push⟩⟩)
end
section
/-! contracts of the class -/
set_option maxRecDepth 100000 in
set_option maxHeartbeats 4000000 in
theorem c_X6_rank {X : jX} (hs : X.1.stackTraces = false) {d : Nat} (hd : 14 ≤ d) {n : Nat} {e r q : Int32} (hn1 : 2 ≤ n) (hn2 : n ≤ 7) {w : List jC} (hS : SH (rX n e r q) w) (p0 : Int32) (p1 : Int32) (p2 : Int32) {kc ks : Nat} (hkc : 3 ≤ kc) (hks : 18 ≤ ks) : jMet X mX6_rank d kc ks [.ref 0, .int p0, .int p1, .int p2] w (pX (pI (fun _ => True) (fun w' => rS n e r q w w')) (fun E w' => (E = "java/lang/IndexOutOfBoundsException" ∨ E = "java/lang/IllegalArgumentException") ∧ rS n e r q w w')) := by
  refine jMet_of hs (by decide +kernel) (Nat.le_of_ble_eq_true rfl) (L := [some (.ref 0), some (.int p0), some (.int p1), some (.int p2)]) rfl ?_
  have hG : Fr kX w w := Fr.rf
  refine J_iload_n (pc := 0) dX6_rank_0 rfl rfl ?_
  refine J_callS (pc := 1) (M := mX6_rank) (as := [.int p1]) dX6_rank_1 fw_X6_needCell fl_X6_67 fs_X6_needCell rfl (c_X6_needCell hs (d := d - 1) (by omega) (w := w) p1 (kc := 1) (ks := 6) (Nat.le_refl _) (Nat.le_refl _)) (by omega) (by omega) (by omega) (st := []) (Nat.le_of_ble_eq_true rfl) rfl (kr_X (kr_V fun w1 hw1 => ?_)) (kx_X fun E1 w1 hx1 => ?_)
  · obtain ⟨hq1, hp1⟩ := hw1
    obtain rfl := hq1.symm
    obtain ⟨b1, hb1, rfl⟩ := hp1
    refine J_iload_n (pc := 4) dX6_rank_4 rfl rfl ?_
    refine J_callS (pc := 5) (M := mX6_rank) (as := [.int p2]) dX6_rank_5 fw_X6_needCell fl_X6_67 fs_X6_needCell rfl (c_X6_needCell hs (d := d - 1) (by omega) (w := w) p2 (kc := 1) (ks := 6) (Nat.le_refl _) (Nat.le_refl _)) (by omega) (by omega) (by omega) (st := []) (Nat.le_of_ble_eq_true rfl) rfl (kr_X (kr_V fun w2 hw2 => ?_)) (kx_X fun E2 w2 hx2 => ?_)
    · obtain ⟨hq2, hp2⟩ := hw2
      obtain rfl := hq2.symm
      obtain ⟨b2, hb2, rfl⟩ := hp2
      refine J_iload_n (pc := 8) dX6_rank_8 rfl rfl ?_
      refine J_callS (pc := 9) (M := mX6_rank) (as := [.int p0]) dX6_rank_9 fw_X6_needSet fl_X6_131 fs_X6_needSet rfl (c_X6_needSet hs (d := d - 1) (by omega) (w := w) p0 (kc := 1) (ks := 6) (Nat.le_refl _) (Nat.le_refl _)) (by omega) (by omega) (by omega) (st := []) (Nat.le_of_ble_eq_true rfl) rfl (kr_X (kr_V fun w3 hw3 => ?_)) (kx_X fun E3 w3 hx3 => ?_)
      · obtain rfl := hw3.symm
        refine J_aload_n (pc := 12) dX6_rank_12 rfl rfl rfl ?_
        obtain ⟨_, hc4, rfl⟩ := hS 0 _ rfl
        refine J_get (pc := 13) (k := 1) dX6_rank_13 kC7 (by decide) ff_X6_16 hc4 rfl ?_
        refine J_aload_n (pc := 16) dX6_rank_16 rfl rfl rfl ?_
        refine J_get (pc := 17) (k := 0) dX6_rank_17 kC7 (by decide) ff_X6_9 hc4 rfl ?_
        refine J_iload_n (pc := 20) dX6_rank_20 rfl rfl ?_
        refine J_aload_n (pc := 21) dX6_rank_21 rfl rfl rfl ?_
        refine J_get (pc := 22) (k := 0) dX6_rank_22 kC7 (by decide) ff_X6_9 hc4 rfl ?_
        refine J_iload_n (pc := 25) dX6_rank_25 rfl rfl ?_
        obtain ⟨_, hc5, xs5, rfl, hl5⟩ := hS 1 _ rfl
        refine J_iald (pc := 26) dX6_rank_26 hc5 (nI_in (by omega) (by omega)) (J_absI fun x6 => ?_)
        refine J_aload_n (pc := 27) dX6_rank_27 rfl rfl rfl ?_
        refine J_get (pc := 28) (k := 5) dX6_rank_28 kC7 (by decide) ff_X6_41 hc4 rfl ?_
        obtain ⟨_, hc8, ka8, kf8, kb8, kg8, rfl, hb8_0, hb8_1⟩ := hS 2 _ rfl
        refine J_callV0 (pc := 31) (M := mX6_rank) (as := [.ref 1, .int p0, .int x6, .int (nI n)]) dX6_rank_31 fw_X0_raise fl_X6_134 fm_X0_raise fe_X0_raise hc8 (by decide) rfl rfl rfl (c_X0_raise hs (d := d - 1) (by omega) (e := e) (r := r) (q := q) hn1 hn2 hS (w := w) p0 x6 (kc := 0) (ks := 0)) (by omega) (st := []) (Nat.le_of_ble_eq_true rfl) rfl (kr_V fun w7 hw7 => ?_) kx_V
        obtain ⟨hS7, hF7⟩ := hw7
        have hG7 := hG.tr hF7
        refine J_aload_n (pc := 34) dX6_rank_34 rfl rfl rfl ?_
        obtain ⟨_, hc9, rfl⟩ := hS7 0 _ rfl
        refine J_get (pc := 35) (k := 1) dX6_rank_35 kC7 (by decide) ff_X6_16 hc9 rfl ?_
        refine J_aload_n (pc := 38) dX6_rank_38 rfl rfl rfl ?_
        refine J_get (pc := 39) (k := 0) dX6_rank_39 kC7 (by decide) ff_X6_9 hc9 rfl ?_
        refine J_iload_n (pc := 42) dX6_rank_42 rfl rfl ?_
        obtain ⟨_, hc10, xs10, rfl, hl10⟩ := hS7 1 _ rfl
        refine J_iald (pc := 43) dX6_rank_43 hc10 (nI_in (by omega) (by omega)) (J_absI fun x11 => ?_)
        obtain ⟨_, hc13, ka13, kf13, kb13, kg13, rfl, hb13_0, hb13_1⟩ := hS7 2 _ rfl
        refine J_callV0 (pc := 44) (M := mX6_rank) (as := [.int x11]) dX6_rank_44 fw_X0_rankOf fl_X6_184 fm_X0_rankOf fe_X0_rankOf hc13 (by decide) rfl rfl rfl (c_X0_rankOf hs (d := d - 1) (by omega) (e := e) (r := r) (q := q) hn1 hn2 hS7 (w := w7) x11 (kc := 0) (ks := 0)) (by omega) (st := []) (Nat.le_of_ble_eq_true rfl) rfl (kr_P fun v12 hv12 => ?_) kx_I
        exact J_iret (pc := 47) dX6_rank_47 rfl ⟨trivial, ⟨hS7, hG7⟩⟩
      · exact JX_out (fun _ h => nomatch h) (by obtain ⟨h1, h2⟩ := hx3; exact ⟨Or.inr h1, by subst h2; exact ⟨hS.push, hG.tr Fr.push⟩⟩)
    · exact JX_out (fun _ h => nomatch h) (by obtain ⟨h1, h2⟩ := hx2; exact ⟨Or.inl h1, by subst h2; exact ⟨hS.push, hG.tr Fr.push⟩⟩)
  · exact JX_out (fun _ h => nomatch h) (by obtain ⟨h1, h2⟩ := hx1; exact ⟨Or.inl h1, by subst h2; exact ⟨hS.push, hG.tr Fr.push⟩⟩)
set_option maxRecDepth 100000 in
set_option maxHeartbeats 4000000 in
theorem c_X6_comes {X : jX} (hs : X.1.stackTraces = false) {d : Nat} (hd : 14 ≤ d) {n : Nat} {e r q : Int32} (hn1 : 2 ≤ n) (hn2 : n ≤ 7) {w : List jC} (hS : SH (rX n e r q) w) (p0 : Int32) (p1 : Int32) {kc ks : Nat} (hkc : 2 ≤ kc) (hks : 12 ≤ ks) : jMet X mX6_comes d kc ks [.ref 0, .int p0, .int p1] w (pX (pI (fun _ => True) (fun w' => rS n e r q w w')) (fun E w' => (E = "java/lang/IndexOutOfBoundsException" ∨ E = "java/lang/IllegalArgumentException") ∧ rS n e r q w w')) := by
  refine jMet_of hs (by decide +kernel) (Nat.le_of_ble_eq_true rfl) (L := [some (.ref 0), some (.int p0), some (.int p1)]) rfl ?_
  have hG : Fr kX w w := Fr.rf
  refine J_aload_n (pc := 0) dX6_comes_0 rfl rfl rfl ?_
  refine J_iload_n (pc := 1) dX6_comes_1 rfl rfl ?_
  obtain ⟨_, hc2, rfl⟩ := hS 0 _ rfl
  refine J_callV (pc := 2) (M := mX6_comes) (as := [.int p1]) dX6_comes_2 fw_X6_needPoint fl_X6_86 fm_X6_needPoint fe_X6_needPoint hc2 (by decide) rfl rfl rfl (c_X6_needPoint hs (d := d - 1) (by omega) (e := e) (r := r) (q := q) hn1 hn2 hS (w := w) p1 (kc := 1) (ks := 6) (Nat.le_refl _) (Nat.le_refl _)) (by omega) (by omega) (by omega) (st := []) (Nat.le_of_ble_eq_true rfl) rfl (kr_X (kr_V fun w1 hw1 => ?_)) (kx_X fun E1 w1 hx1 => ?_)
  · obtain ⟨hq1, hp1⟩ := hw1
    obtain rfl := hq1.symm
    obtain ⟨b1, hb1, rfl⟩ := hp1
    refine J_iload_n (pc := 5) dX6_comes_5 rfl rfl ?_
    refine J_callS (pc := 6) (M := mX6_comes) (as := [.int p0]) dX6_comes_6 fw_X6_needSet fl_X6_131 fs_X6_needSet rfl (c_X6_needSet hs (d := d - 1) (by omega) (w := w) p0 (kc := 1) (ks := 6) (Nat.le_refl _) (Nat.le_refl _)) (by omega) (by omega) (by omega) (st := []) (Nat.le_of_ble_eq_true rfl) rfl (kr_X (kr_V fun w3 hw3 => ?_)) (kx_X fun E3 w3 hx3 => ?_)
    · obtain rfl := hw3.symm
      refine J_aload_n (pc := 9) dX6_comes_9 rfl rfl rfl ?_
      refine J_get (pc := 10) (k := 3) dX6_comes_10 kC7 (by decide) ff_X6_30 hc2 rfl ?_
      refine J_aload_n (pc := 13) dX6_comes_13 rfl rfl rfl ?_
      refine J_get (pc := 14) (k := 0) dX6_comes_14 kC7 (by decide) ff_X6_9 hc2 rfl ?_
      refine J_iload_n (pc := 17) dX6_comes_17 rfl rfl ?_
      refine J_aload_n (pc := 18) dX6_comes_18 rfl rfl rfl ?_
      refine J_get (pc := 19) (k := 5) dX6_comes_19 kC7 (by decide) ff_X6_41 hc2 rfl ?_
      obtain ⟨_, hc5, ka5, rfl, hb5_0⟩ := hS 12 _ rfl
      refine J_callV0 (pc := 22) (M := mX6_comes) (as := [.ref 1, .int p0, .int (nI n)]) dX6_comes_22 fw_X4_joinComing fl_X6_187 fm_X4_joinComing fe_X4_joinComing hc5 (by decide) rfl rfl rfl (c_X4_joinComing hs (d := d - 1) (by omega) (e := e) (r := r) (q := q) hn1 hn2 hS (w := w) p0 (kc := 0) (ks := 0)) (by omega) (st := []) (Nat.le_of_ble_eq_true rfl) rfl (kr_V fun w4 hw4 => ?_) kx_V
      obtain ⟨hS4, hF4⟩ := hw4
      have hG4 := hG.tr hF4
      refine J_aload_n (pc := 25) dX6_comes_25 rfl rfl rfl ?_
      obtain ⟨_, hc6, rfl⟩ := hS4 0 _ rfl
      refine J_get (pc := 26) (k := 3) dX6_comes_26 kC7 (by decide) ff_X6_30 hc6 rfl ?_
      refine J_iload_n (pc := 29) dX6_comes_29 rfl rfl ?_
      obtain ⟨_, hc8, ka8, rfl, hb8_0⟩ := hS4 12 _ rfl
      refine J_callV0 (pc := 30) (M := mX6_comes) (as := [.int (nI b1)]) dX6_comes_30 fw_X4_partWith fl_X6_190 fm_X4_partWith fe_X4_partWith hc8 (by decide) rfl rfl rfl (c_X4_partWith hs (d := d - 1) (by omega) (e := e) (r := r) (q := q) hn1 hn2 hS4 (w := w4) (nI b1) (kc := 0) (ks := 0)) (by omega) (st := []) (Nat.le_of_ble_eq_true rfl) rfl (kr_P fun v7 hv7 => ?_) kx_I
      exact J_iret (pc := 33) dX6_comes_33 rfl ⟨trivial, ⟨hS4, hG4⟩⟩
    · exact JX_out (fun _ h => nomatch h) (by obtain ⟨h1, h2⟩ := hx3; exact ⟨Or.inr h1, by subst h2; exact ⟨hS.push, hG.tr Fr.push⟩⟩)
  · exact JX_out (fun _ h => nomatch h) (by obtain ⟨h1, h2⟩ := hx1; exact ⟨Or.inl h1, by subst h2; exact ⟨hS.push, hG.tr Fr.push⟩⟩)
set_option maxRecDepth 100000 in
set_option maxHeartbeats 4000000 in
theorem c_X6_pieces {X : jX} (hs : X.1.stackTraces = false) {d : Nat} (hd : 14 ≤ d) {n : Nat} {e r q : Int32} (hn1 : 2 ≤ n) (hn2 : n ≤ 7) {w : List jC} (hS : SH (rX n e r q) w) (p0 : Int32) {kc ks : Nat} (hkc : 1 ≤ kc) (hks : 6 ≤ ks) : jMet X mX6_pieces d kc ks [.ref 0, .int p0] w (pX (pI (fun _ => True) (fun w' => rS n e r q w w')) (fun E w' => (E = "java/lang/IllegalArgumentException") ∧ rS n e r q w w')) := by
  refine jMet_of hs (by decide +kernel) (Nat.le_of_ble_eq_true rfl) (L := [some (.ref 0), some (.int p0)]) rfl ?_
  have hG : Fr kX w w := Fr.rf
  refine J_iload_n (pc := 0) dX6_pieces_0 rfl rfl ?_
  refine J_callS (pc := 1) (M := mX6_pieces) (as := [.int p0]) dX6_pieces_1 fw_X6_needSet fl_X6_131 fs_X6_needSet rfl (c_X6_needSet hs (d := d - 1) (by omega) (w := w) p0 (kc := 1) (ks := 6) (Nat.le_refl _) (Nat.le_refl _)) (by omega) (by omega) (by omega) (st := []) (Nat.le_of_ble_eq_true rfl) rfl (kr_X (kr_V fun w1 hw1 => ?_)) (kx_X fun E1 w1 hx1 => ?_)
  · obtain rfl := hw1.symm
    refine J_aload_n (pc := 4) dX6_pieces_4 rfl rfl rfl ?_
    obtain ⟨_, hc2, rfl⟩ := hS 0 _ rfl
    refine J_get (pc := 5) (k := 3) dX6_pieces_5 kC7 (by decide) ff_X6_30 hc2 rfl ?_
    refine J_aload_n (pc := 8) dX6_pieces_8 rfl rfl rfl ?_
    refine J_get (pc := 9) (k := 0) dX6_pieces_9 kC7 (by decide) ff_X6_9 hc2 rfl ?_
    refine J_iload_n (pc := 12) dX6_pieces_12 rfl rfl ?_
    refine J_aload_n (pc := 13) dX6_pieces_13 rfl rfl rfl ?_
    refine J_get (pc := 14) (k := 5) dX6_pieces_14 kC7 (by decide) ff_X6_41 hc2 rfl ?_
    obtain ⟨_, hc4, ka4, rfl, hb4_0⟩ := hS 12 _ rfl
    refine J_callV0 (pc := 17) (M := mX6_pieces) (as := [.ref 1, .int p0, .int (nI n)]) dX6_pieces_17 fw_X4_joinComing fl_X6_187 fm_X4_joinComing fe_X4_joinComing hc4 (by decide) rfl rfl rfl (c_X4_joinComing hs (d := d - 1) (by omega) (e := e) (r := r) (q := q) hn1 hn2 hS (w := w) p0 (kc := 0) (ks := 0)) (by omega) (st := []) (Nat.le_of_ble_eq_true rfl) rfl (kr_V fun w3 hw3 => ?_) kx_V
    obtain ⟨hS3, hF3⟩ := hw3
    have hG3 := hG.tr hF3
    refine J_aload_n (pc := 20) dX6_pieces_20 rfl rfl rfl ?_
    obtain ⟨_, hc5, rfl⟩ := hS3 0 _ rfl
    refine J_get (pc := 21) (k := 3) dX6_pieces_21 kC7 (by decide) ff_X6_30 hc5 rfl ?_
    obtain ⟨_, hc7, ka7, rfl, hb7_0⟩ := hS3 12 _ rfl
    refine J_callV0 (pc := 24) (M := mX6_pieces) (as := []) dX6_pieces_24 fw_X4_parts fl_X6_193 fm_X4_parts fe_X4_parts hc7 (by decide) rfl rfl rfl (c_X4_parts hs (d := d - 1) (by omega) (e := e) (r := r) (q := q) hn1 hn2 hS3 (w := w3)  (kc := 0) (ks := 0)) (by omega) (st := []) (Nat.le_of_ble_eq_true rfl) rfl (kr_P fun v6 hv6 => ?_) kx_I
    exact J_iret (pc := 27) dX6_pieces_27 rfl ⟨trivial, ⟨hS3, hG3⟩⟩
  · exact JX_out (fun _ h => nomatch h) (by obtain ⟨h1, h2⟩ := hx1; exact ⟨h1, by subst h2; exact ⟨hS.push, hG.tr Fr.push⟩⟩)
set_option maxRecDepth 100000 in
set_option maxHeartbeats 4000000 in
theorem c_X6_withOrder {X : jX} (hs : X.1.stackTraces = false) {d : Nat} (hd : 14 ≤ d) {n : Nat} {e r q : Int32} (hn1 : 2 ≤ n) (hn2 : n ≤ 7) {w : List jC} (hS : SH (rX n e r q) w) (p0 : Int32) (p1 : Int32) {kc ks : Nat} (hkc : 2 ≤ kc) (hks : 12 ≤ ks) : jMet X mX6_withOrder d kc ks [.ref 0, .int p0, .int p1] w (pX (pI (fun _ => True) (fun w' => rS n e r q w w')) (fun E w' => (E = "java/lang/IllegalArgumentException") ∧ rS n e r q w w')) := by
  refine jMet_of hs (by decide +kernel) (Nat.le_of_ble_eq_true rfl) (L := [some (.ref 0), some (.int p0), some (.int p1)]) rfl ?_
  have hG : Fr kX w w := Fr.rf
  refine J_iload_n (pc := 0) dX6_withOrder_0 rfl rfl ?_
  refine J_callS (pc := 1) (M := mX6_withOrder) (as := [.int p0]) dX6_withOrder_1 fw_X6_needSet fl_X6_131 fs_X6_needSet rfl (c_X6_needSet hs (d := d - 1) (by omega) (w := w) p0 (kc := 1) (ks := 6) (Nat.le_refl _) (Nat.le_refl _)) (by omega) (by omega) (by omega) (st := []) (Nat.le_of_ble_eq_true rfl) rfl (kr_X (kr_V fun w1 hw1 => ?_)) (kx_X fun E1 w1 hx1 => ?_)
  · obtain rfl := hw1.symm
    refine J_iload_n (pc := 4) dX6_withOrder_4 rfl rfl ?_
    refine J_iconst (pc := 5) (v := nI 1) dX6_withOrder_5 (by decide) ?_
    refine J_bipush (pc := 6) (v := nI 12) dX6_withOrder_6 (by decide) ?_
    refine J_callS (pc := 8) (M := mX6_withOrder) (as := [.int p1, .int (nI 1), .int (nI 12)]) dX6_withOrder_8 fw_X6_needBetween fl_X6_63 fs_X6_needBetween rfl (c_X6_needBetween hs (d := d - 1) (by omega) (w := w) p1 (nI 1) (nI 12) (kc := 1) (ks := 6) (Nat.le_refl _) (Nat.le_refl _)) (by omega) (by omega) (by omega) (st := []) (Nat.le_of_ble_eq_true rfl) rfl (kr_X (kr_V fun w2 hw2 => ?_)) (kx_X fun E2 w2 hx2 => ?_)
    · obtain ⟨hq2, hpa2, hpb2⟩ := hw2
      obtain rfl := hq2.symm
      obtain ⟨b2, hb2, hc2, rfl⟩ := nI_btw hpa2 hpb2 (by omega) (by omega)
      refine J_aload_n (pc := 11) dX6_withOrder_11 rfl rfl rfl ?_
      obtain ⟨_, hc3, rfl⟩ := hS 0 _ rfl
      refine J_get (pc := 12) (k := 2) dX6_withOrder_12 kC7 (by decide) ff_X6_23 hc3 rfl ?_
      refine J_aload_n (pc := 15) dX6_withOrder_15 rfl rfl rfl ?_
      refine J_get (pc := 16) (k := 0) dX6_withOrder_16 kC7 (by decide) ff_X6_9 hc3 rfl ?_
      refine J_iload_n (pc := 19) dX6_withOrder_19 rfl rfl ?_
      refine J_aload_n (pc := 20) dX6_withOrder_20 rfl rfl rfl ?_
      refine J_get (pc := 21) (k := 5) dX6_withOrder_21 kC7 (by decide) ff_X6_41 hc3 rfl ?_
      obtain ⟨_, hc5, ka5, rfl, hb5_0⟩ := hS 8 _ rfl
      refine J_callV0 (pc := 24) (M := mX6_withOrder) (as := [.ref 1, .int p0, .int (nI n)]) dX6_withOrder_24 fw_X5_goThrough fl_X6_177 fm_X5_goThrough fe_X5_goThrough hc5 (by decide) rfl rfl rfl (c_X5_goThrough hs (d := d - 1) (by omega) (e := e) (r := r) (q := q) hn1 hn2 hS (w := w) p0 (kc := 0) (ks := 0)) (by omega) (st := []) (Nat.le_of_ble_eq_true rfl) rfl (kr_V fun w4 hw4 => ?_) kx_V
      obtain ⟨hS4, hF4⟩ := hw4
      have hG4 := hG.tr hF4
      refine J_aload_n (pc := 27) dX6_withOrder_27 rfl rfl rfl ?_
      obtain ⟨_, hc6, rfl⟩ := hS4 0 _ rfl
      refine J_get (pc := 28) (k := 2) dX6_withOrder_28 kC7 (by decide) ff_X6_23 hc6 rfl ?_
      refine J_iload_n (pc := 31) dX6_withOrder_31 rfl rfl ?_
      obtain ⟨_, hc8, ka8, rfl, hb8_0⟩ := hS4 8 _ rfl
      refine J_callV0 (pc := 32) (M := mX6_withOrder) (as := [.int (nI b2)]) dX6_withOrder_32 fw_X5_howManyOfOrder fl_X6_196 fm_X5_howManyOfOrder fe_X5_howManyOfOrder hc8 (by decide) rfl rfl rfl (c_X5_howManyOfOrder hs (d := d - 1) (by omega) (e := e) (r := r) (q := q) hn1 hn2 hS4 (w := w4) (nI b2) (kc := 0) (ks := 0)) (by omega) (st := []) (Nat.le_of_ble_eq_true rfl) rfl (kr_P fun v7 hv7 => ?_) kx_I
      exact J_iret (pc := 35) dX6_withOrder_35 rfl ⟨trivial, ⟨hS4, hG4⟩⟩
    · exact JX_out (fun _ h => nomatch h) (by obtain ⟨h1, h2⟩ := hx2; exact ⟨h1, by subst h2; exact ⟨hS.push, hG.tr Fr.push⟩⟩)
  · exact JX_out (fun _ h => nomatch h) (by obtain ⟨h1, h2⟩ := hx1; exact ⟨h1, by subst h2; exact ⟨hS.push, hG.tr Fr.push⟩⟩)
end
section
/-! contracts of the class -/
set_option maxRecDepth 100000 in
set_option maxHeartbeats 4000000 in
theorem c_X6_even {X : jX} (hs : X.1.stackTraces = false) {d : Nat} (hd : 14 ≤ d) {n : Nat} {e r q : Int32} (hn1 : 2 ≤ n) (hn2 : n ≤ 7) {w : List jC} (hS : SH (rX n e r q) w) (p0 : Int32) {kc ks : Nat} (hkc : 1 ≤ kc) (hks : 6 ≤ ks) : jMet X mX6_even d kc ks [.ref 0, .int p0] w (pX (pI (fun _ => True) (fun w' => rS n e r q w w')) (fun E w' => (E = "java/lang/IllegalArgumentException") ∧ rS n e r q w w')) := by
  refine jMet_of hs (by decide +kernel) (Nat.le_of_ble_eq_true rfl) (L := [some (.ref 0), some (.int p0)]) rfl ?_
  have hG : Fr kX w w := Fr.rf
  refine J_iload_n (pc := 0) dX6_even_0 rfl rfl ?_
  refine J_callS (pc := 1) (M := mX6_even) (as := [.int p0]) dX6_even_1 fw_X6_needSet fl_X6_131 fs_X6_needSet rfl (c_X6_needSet hs (d := d - 1) (by omega) (w := w) p0 (kc := 1) (ks := 6) (Nat.le_refl _) (Nat.le_refl _)) (by omega) (by omega) (by omega) (st := []) (Nat.le_of_ble_eq_true rfl) rfl (kr_X (kr_V fun w1 hw1 => ?_)) (kx_X fun E1 w1 hx1 => ?_)
  · obtain rfl := hw1.symm
    refine J_aload_n (pc := 4) dX6_even_4 rfl rfl rfl ?_
    obtain ⟨_, hc2, rfl⟩ := hS 0 _ rfl
    refine J_get (pc := 5) (k := 2) dX6_even_5 kC7 (by decide) ff_X6_23 hc2 rfl ?_
    refine J_aload_n (pc := 8) dX6_even_8 rfl rfl rfl ?_
    refine J_get (pc := 9) (k := 0) dX6_even_9 kC7 (by decide) ff_X6_9 hc2 rfl ?_
    refine J_iload_n (pc := 12) dX6_even_12 rfl rfl ?_
    refine J_aload_n (pc := 13) dX6_even_13 rfl rfl rfl ?_
    refine J_get (pc := 14) (k := 5) dX6_even_14 kC7 (by decide) ff_X6_41 hc2 rfl ?_
    obtain ⟨_, hc4, ka4, rfl, hb4_0⟩ := hS 8 _ rfl
    refine J_callV0 (pc := 17) (M := mX6_even) (as := [.ref 1, .int p0, .int (nI n)]) dX6_even_17 fw_X5_goThrough fl_X6_177 fm_X5_goThrough fe_X5_goThrough hc4 (by decide) rfl rfl rfl (c_X5_goThrough hs (d := d - 1) (by omega) (e := e) (r := r) (q := q) hn1 hn2 hS (w := w) p0 (kc := 0) (ks := 0)) (by omega) (st := []) (Nat.le_of_ble_eq_true rfl) rfl (kr_V fun w3 hw3 => ?_) kx_V
    obtain ⟨hS3, hF3⟩ := hw3
    have hG3 := hG.tr hF3
    refine J_aload_n (pc := 20) dX6_even_20 rfl rfl rfl ?_
    obtain ⟨_, hc5, rfl⟩ := hS3 0 _ rfl
    refine J_get (pc := 21) (k := 2) dX6_even_21 kC7 (by decide) ff_X6_23 hc5 rfl ?_
    obtain ⟨_, hc7, ka7, rfl, hb7_0⟩ := hS3 8 _ rfl
    refine J_callV0 (pc := 24) (M := mX6_even) (as := []) dX6_even_24 fw_X5_howManyEven fl_X6_199 fm_X5_howManyEven fe_X5_howManyEven hc7 (by decide) rfl rfl rfl (c_X5_howManyEven hs (d := d - 1) (by omega) (e := e) (r := r) (q := q) hn1 hn2 hS3 (w := w3)  (kc := 0) (ks := 0)) (by omega) (st := []) (Nat.le_of_ble_eq_true rfl) rfl (kr_P fun v6 hv6 => ?_) kx_I
    exact J_iret (pc := 27) dX6_even_27 rfl ⟨trivial, ⟨hS3, hG3⟩⟩
  · exact JX_out (fun _ h => nomatch h) (by obtain ⟨h1, h2⟩ := hx1; exact ⟨h1, by subst h2; exact ⟨hS.push, hG.tr Fr.push⟩⟩)
set_option maxRecDepth 100000 in
set_option maxHeartbeats 4000000 in
theorem c_X6_colourings {X : jX} (hs : X.1.stackTraces = false) {d : Nat} (hd : 14 ≤ d) {n : Nat} {e r q : Int32} (hn1 : 2 ≤ n) (hn2 : n ≤ 7) {w : List jC} (hS : SH (rX n e r q) w) (p0 : Int32) (p1 : Int32) (p2 : Int32) {kc ks : Nat} (hkc : 3 ≤ kc) (hks : 18 ≤ ks) : jMet X mX6_colourings d kc ks [.ref 0, .int p0, .int p1, .int p2] w (pX (pI (fun _ => True) (fun w' => rS n e r q w w')) (fun E w' => (E = "java/lang/IllegalArgumentException") ∧ rS n e r q w w')) := by
  refine jMet_of hs (by decide +kernel) (Nat.le_of_ble_eq_true rfl) (L := [some (.ref 0), some (.int p0), some (.int p1), some (.int p2)]) rfl ?_
  have hG : Fr kX w w := Fr.rf
  refine J_iload_n (pc := 0) dX6_colourings_0 rfl rfl ?_
  refine J_callS (pc := 1) (M := mX6_colourings) (as := [.int p0]) dX6_colourings_1 fw_X6_needSet fl_X6_131 fs_X6_needSet rfl (c_X6_needSet hs (d := d - 1) (by omega) (w := w) p0 (kc := 1) (ks := 6) (Nat.le_refl _) (Nat.le_refl _)) (by omega) (by omega) (by omega) (st := []) (Nat.le_of_ble_eq_true rfl) rfl (kr_X (kr_V fun w1 hw1 => ?_)) (kx_X fun E1 w1 hx1 => ?_)
  · obtain rfl := hw1.symm
    refine J_iload_n (pc := 4) dX6_colourings_4 rfl rfl ?_
    refine J_iconst (pc := 5) (v := nI 1) dX6_colourings_5 (by decide) ?_
    refine J_iconst (pc := 6) (v := nI 3) dX6_colourings_6 (by decide) ?_
    refine J_callS (pc := 7) (M := mX6_colourings) (as := [.int p1, .int (nI 1), .int (nI 3)]) dX6_colourings_7 fw_X6_needBetween fl_X6_63 fs_X6_needBetween rfl (c_X6_needBetween hs (d := d - 1) (by omega) (w := w) p1 (nI 1) (nI 3) (kc := 1) (ks := 6) (Nat.le_refl _) (Nat.le_refl _)) (by omega) (by omega) (by omega) (st := []) (Nat.le_of_ble_eq_true rfl) rfl (kr_X (kr_V fun w2 hw2 => ?_)) (kx_X fun E2 w2 hx2 => ?_)
    · obtain ⟨hq2, hpa2, hpb2⟩ := hw2
      obtain rfl := hq2.symm
      obtain ⟨b2, hb2, hc2, rfl⟩ := nI_btw hpa2 hpb2 (by omega) (by omega)
      refine J_iload_n (pc := 10) dX6_colourings_10 rfl rfl ?_
      refine J_iconst (pc := 11) (v := nI 0) dX6_colourings_11 (by decide) ?_
      refine J_iconst (pc := 12) (v := nI 1) dX6_colourings_12 (by decide) ?_
      refine J_callS (pc := 13) (M := mX6_colourings) (as := [.int p2, .int (nI 0), .int (nI 1)]) dX6_colourings_13 fw_X6_needBetween fl_X6_63 fs_X6_needBetween rfl (c_X6_needBetween hs (d := d - 1) (by omega) (w := w) p2 (nI 0) (nI 1) (kc := 1) (ks := 6) (Nat.le_refl _) (Nat.le_refl _)) (by omega) (by omega) (by omega) (st := []) (Nat.le_of_ble_eq_true rfl) rfl (kr_X (kr_V fun w3 hw3 => ?_)) (kx_X fun E3 w3 hx3 => ?_)
      · obtain ⟨hq3, hpa3, hpb3⟩ := hw3
        obtain rfl := hq3.symm
        obtain ⟨b3, hb3, hc3, rfl⟩ := nI_btw hpa3 hpb3 (by omega) (by omega)
        refine J_iload_n (pc := 16) dX6_colourings_16 rfl rfl ?_
        refine J_if_neN (pc := 17) (tgt := 45) dX6_colourings_17 (by decide) (by omega) (fun ht4 => ?_) (fun hf5 => ?_)
        · refine J_aload_n (pc := 45) dX6_colourings_45 rfl rfl rfl ?_
          obtain ⟨_, hc6, rfl⟩ := hS 0 _ rfl
          refine J_get (pc := 46) (k := 4) dX6_colourings_46 kC7 (by decide) ff_X6_37 hc6 rfl ?_
          refine J_aload_n (pc := 49) dX6_colourings_49 rfl rfl rfl ?_
          refine J_get (pc := 50) (k := 0) dX6_colourings_50 kC7 (by decide) ff_X6_9 hc6 rfl ?_
          refine J_iload_n (pc := 53) dX6_colourings_53 rfl rfl ?_
          refine J_iload_n (pc := 54) dX6_colourings_54 rfl rfl ?_
          refine J_aload_n (pc := 55) dX6_colourings_55 rfl rfl rfl ?_
          refine J_get (pc := 56) (k := 5) dX6_colourings_56 kC7 (by decide) ff_X6_41 hc6 rfl ?_
          obtain ⟨_, hc8, ka8, kb8, rfl, hb8_0, hb8_1, hb8_2⟩ := hS 14 _ rfl
          refine J_callV0 (pc := 59) (M := mX6_colourings) (as := [.ref 1, .int p0, .int (nI b2), .int (nI n)]) dX6_colourings_59 fw_X3_colouringsOneByOne fl_X6_205 fm_X3_colouringsOneByOne fe_X3_colouringsOneByOne hc8 (by decide) rfl rfl rfl (c_X3_colouringsOneByOne hs (d := d - 1) (by omega) (e := e) (r := r) (q := q) hn1 hn2 hS (w := w) p0 b2 (by omega) (by omega) (kc := 0) (ks := 0)) (by omega) (st := []) (Nat.le_of_ble_eq_true rfl) rfl (kr_I fun v7 w7 hv7 hw7 => ?_) kx_I
          obtain ⟨hS7, hF7⟩ := hw7
          have hG7 := hG.tr hF7
          exact J_iret (pc := 62) dX6_colourings_62 rfl ⟨trivial, ⟨hS7, hG7⟩⟩
        · refine J_aload_n (pc := 20) dX6_colourings_20 rfl rfl rfl ?_
          obtain ⟨_, hc9, rfl⟩ := hS 0 _ rfl
          refine J_get (pc := 21) (k := 2) dX6_colourings_21 kC7 (by decide) ff_X6_23 hc9 rfl ?_
          refine J_aload_n (pc := 24) dX6_colourings_24 rfl rfl rfl ?_
          refine J_get (pc := 25) (k := 0) dX6_colourings_25 kC7 (by decide) ff_X6_9 hc9 rfl ?_
          refine J_iload_n (pc := 28) dX6_colourings_28 rfl rfl ?_
          refine J_aload_n (pc := 29) dX6_colourings_29 rfl rfl rfl ?_
          refine J_get (pc := 30) (k := 5) dX6_colourings_30 kC7 (by decide) ff_X6_41 hc9 rfl ?_
          obtain ⟨_, hc11, ka11, rfl, hb11_0⟩ := hS 8 _ rfl
          refine J_callV0 (pc := 33) (M := mX6_colourings) (as := [.ref 1, .int p0, .int (nI n)]) dX6_colourings_33 fw_X5_goThrough fl_X6_177 fm_X5_goThrough fe_X5_goThrough hc11 (by decide) rfl rfl rfl (c_X5_goThrough hs (d := d - 1) (by omega) (e := e) (r := r) (q := q) hn1 hn2 hS (w := w) p0 (kc := 0) (ks := 0)) (by omega) (st := []) (Nat.le_of_ble_eq_true rfl) rfl (kr_V fun w10 hw10 => ?_) kx_V
          obtain ⟨hS10, hF10⟩ := hw10
          have hG10 := hG.tr hF10
          refine J_aload_n (pc := 36) dX6_colourings_36 rfl rfl rfl ?_
          obtain ⟨_, hc12, rfl⟩ := hS10 0 _ rfl
          refine J_get (pc := 37) (k := 2) dX6_colourings_37 kC7 (by decide) ff_X6_23 hc12 rfl ?_
          refine J_iload_n (pc := 40) dX6_colourings_40 rfl rfl ?_
          obtain ⟨_, hc14, ka14, rfl, hb14_0⟩ := hS10 8 _ rfl
          refine J_callV0 (pc := 41) (M := mX6_colourings) (as := [.int (nI b2)]) dX6_colourings_41 fw_X5_colouringsByMean fl_X6_202 fm_X5_colouringsByMean fe_X5_colouringsByMean hc14 (by decide) rfl rfl rfl (c_X5_colouringsByMean hs (d := d - 1) (by omega) (e := e) (r := r) (q := q) hn1 hn2 hS10 (w := w10) (nI b2) (kc := 0) (ks := 0)) (by omega) (st := []) (Nat.le_of_ble_eq_true rfl) rfl (kr_P fun v13 hv13 => ?_) kx_I
          exact J_iret (pc := 44) dX6_colourings_44 rfl ⟨trivial, ⟨hS10, hG10⟩⟩
      · exact JX_out (fun _ h => nomatch h) (by obtain ⟨h1, h2⟩ := hx3; exact ⟨h1, by subst h2; exact ⟨hS.push, hG.tr Fr.push⟩⟩)
    · exact JX_out (fun _ h => nomatch h) (by obtain ⟨h1, h2⟩ := hx2; exact ⟨h1, by subst h2; exact ⟨hS.push, hG.tr Fr.push⟩⟩)
  · exact JX_out (fun _ h => nomatch h) (by obtain ⟨h1, h2⟩ := hx1; exact ⟨h1, by subst h2; exact ⟨hS.push, hG.tr Fr.push⟩⟩)
set_option maxRecDepth 100000 in
set_option maxHeartbeats 4000000 in
theorem c_X6_isPart {X : jX} (hs : X.1.stackTraces = false) {d : Nat} (hd : 14 ≤ d) {n : Nat} {e r q : Int32} (hn1 : 2 ≤ n) (hn2 : n ≤ 7) {w : List jC} (hS : SH (rX n e r q) w) (p0 : Int32) (p1 : Int32) {kc ks : Nat} (hkc : 2 ≤ kc) (hks : 12 ≤ ks) : jMet X mX6_isPart d kc ks [.ref 0, .int p0, .int p1] w (pX (pI (fun v => ∃ k : Nat, v = nI k ∧ k < 2) (fun w' => rS n e r q w w')) (fun E w' => (E = "java/lang/IllegalArgumentException") ∧ rS n e r q w w')) := by
  refine jMet_of hs (by decide +kernel) (Nat.le_of_ble_eq_true rfl) (L := [some (.ref 0), some (.int p0), some (.int p1)]) rfl ?_
  have hG : Fr kX w w := Fr.rf
  refine J_iload_n (pc := 0) dX6_isPart_0 rfl rfl ?_
  refine J_callS (pc := 1) (M := mX6_isPart) (as := [.int p0]) dX6_isPart_1 fw_X6_needSet fl_X6_131 fs_X6_needSet rfl (c_X6_needSet hs (d := d - 1) (by omega) (w := w) p0 (kc := 1) (ks := 6) (Nat.le_refl _) (Nat.le_refl _)) (by omega) (by omega) (by omega) (st := []) (Nat.le_of_ble_eq_true rfl) rfl (kr_X (kr_V fun w1 hw1 => ?_)) (kx_X fun E1 w1 hx1 => ?_)
  · obtain rfl := hw1.symm
    refine J_iload_n (pc := 4) dX6_isPart_4 rfl rfl ?_
    refine J_callS (pc := 5) (M := mX6_isPart) (as := [.int p1]) dX6_isPart_5 fw_X6_needSet fl_X6_131 fs_X6_needSet rfl (c_X6_needSet hs (d := d - 1) (by omega) (w := w) p1 (kc := 1) (ks := 6) (Nat.le_refl _) (Nat.le_refl _)) (by omega) (by omega) (by omega) (st := []) (Nat.le_of_ble_eq_true rfl) rfl (kr_X (kr_V fun w2 hw2 => ?_)) (kx_X fun E2 w2 hx2 => ?_)
    · obtain rfl := hw2.symm
      refine J_aload_n (pc := 8) dX6_isPart_8 rfl rfl rfl ?_
      obtain ⟨_, hc3, rfl⟩ := hS 0 _ rfl
      refine J_get (pc := 9) (k := 1) dX6_isPart_9 kC7 (by decide) ff_X6_16 hc3 rfl ?_
      refine J_aload_n (pc := 12) dX6_isPart_12 rfl rfl rfl ?_
      refine J_get (pc := 13) (k := 0) dX6_isPart_13 kC7 (by decide) ff_X6_9 hc3 rfl ?_
      refine J_iload_n (pc := 16) dX6_isPart_16 rfl rfl ?_
      refine J_ldc (pc := 17) (v := nI 1754760) dX6_isPart_17 (by have := fk_X6_56; exact this) ?_
      refine J_aload_n (pc := 19) dX6_isPart_19 rfl rfl rfl ?_
      refine J_get (pc := 20) (k := 5) dX6_isPart_20 kC7 (by decide) ff_X6_41 hc3 rfl ?_
      obtain ⟨_, hc5, ka5, kf5, kb5, kg5, rfl, hb5_0, hb5_1⟩ := hS 2 _ rfl
      refine J_callV0 (pc := 23) (M := mX6_isPart) (as := [.ref 1, .int p1, .int (nI 1754760), .int (nI n)]) dX6_isPart_23 fw_X0_raise fl_X6_134 fm_X0_raise fe_X0_raise hc5 (by decide) rfl rfl rfl (c_X0_raise hs (d := d - 1) (by omega) (e := e) (r := r) (q := q) hn1 hn2 hS (w := w) p1 (nI 1754760) (kc := 0) (ks := 0)) (by omega) (st := []) (Nat.le_of_ble_eq_true rfl) rfl (kr_V fun w4 hw4 => ?_) kx_V
      obtain ⟨hS4, hF4⟩ := hw4
      have hG4 := hG.tr hF4
      refine J_aload_n (pc := 26) dX6_isPart_26 rfl rfl rfl ?_
      obtain ⟨_, hc6, rfl⟩ := hS4 0 _ rfl
      refine J_get (pc := 27) (k := 1) dX6_isPart_27 kC7 (by decide) ff_X6_16 hc6 rfl ?_
      refine J_aload_n (pc := 30) dX6_isPart_30 rfl rfl rfl ?_
      refine J_get (pc := 31) (k := 0) dX6_isPart_31 kC7 (by decide) ff_X6_9 hc6 rfl ?_
      refine J_iload_n (pc := 34) dX6_isPart_34 rfl rfl ?_
      obtain ⟨_, hc8, ka8, kf8, kb8, kg8, rfl, hb8_0, hb8_1⟩ := hS4 2 _ rfl
      refine J_callV0 (pc := 35) (M := mX6_isPart) (as := [.ref 1, .int p0]) dX6_isPart_35 fw_X0_holdsAll fl_X6_209 fm_X0_holdsAll fe_X0_holdsAll hc8 (by decide) rfl rfl rfl (c_X0_holdsAll hs (d := d - 1) (by omega) (e := e) (r := r) (q := q) hn1 hn2 hS4 (w := w4) p0 (kc := 0) (ks := 0)) (by omega) (st := []) (Nat.le_of_ble_eq_true rfl) rfl (kr_P fun v7 hv7 => ?_) kx_I
      obtain ⟨k7, rfl, hk7⟩ := hv7
      exact J_zret (pc := 38) dX6_isPart_38 rfl (nar_b (by omega)) ⟨⟨k7, rfl, by omega⟩, ⟨hS4, hG4⟩⟩
    · exact JX_out (fun _ h => nomatch h) (by obtain ⟨h1, h2⟩ := hx2; exact ⟨h1, by subst h2; exact ⟨hS.push, hG.tr Fr.push⟩⟩)
  · exact JX_out (fun _ h => nomatch h) (by obtain ⟨h1, h2⟩ := hx1; exact ⟨h1, by subst h2; exact ⟨hS.push, hG.tr Fr.push⟩⟩)
end
section
/-! contracts of the class -/
set_option maxRecDepth 100000 in
set_option maxHeartbeats 4000000 in
theorem c_X6_shares {X : jX} (hs : X.1.stackTraces = false) {d : Nat} (hd : 14 ≤ d) {n : Nat} {e r q : Int32} (hn1 : 2 ≤ n) (hn2 : n ≤ 7) {w : List jC} (hS : SH (rX n e r q) w) (p0 : Int32) (p1 : Int32) {kc ks : Nat} (hkc : 2 ≤ kc) (hks : 12 ≤ ks) : jMet X mX6_shares d kc ks [.ref 0, .int p0, .int p1] w (pX (pI (fun _ => True) (fun w' => rS n e r q w w')) (fun E w' => (E = "java/lang/IllegalArgumentException") ∧ rS n e r q w w')) := by
  refine jMet_of hs (by decide +kernel) (Nat.le_of_ble_eq_true rfl) (L := [some (.ref 0), some (.int p0), some (.int p1), none]) rfl ?_
  have hG : Fr kX w w := Fr.rf
  refine J_iload_n (pc := 0) dX6_shares_0 rfl rfl ?_
  refine J_callS (pc := 1) (M := mX6_shares) (as := [.int p0]) dX6_shares_1 fw_X6_needSet fl_X6_131 fs_X6_needSet rfl (c_X6_needSet hs (d := d - 1) (by omega) (w := w) p0 (kc := 1) (ks := 6) (Nat.le_refl _) (Nat.le_refl _)) (by omega) (by omega) (by omega) (st := []) (Nat.le_of_ble_eq_true rfl) rfl (kr_X (kr_V fun w1 hw1 => ?_)) (kx_X fun E1 w1 hx1 => ?_)
  · obtain rfl := hw1.symm
    refine J_iload_n (pc := 4) dX6_shares_4 rfl rfl ?_
    refine J_callS (pc := 5) (M := mX6_shares) (as := [.int p1]) dX6_shares_5 fw_X6_needSet fl_X6_131 fs_X6_needSet rfl (c_X6_needSet hs (d := d - 1) (by omega) (w := w) p1 (kc := 1) (ks := 6) (Nat.le_refl _) (Nat.le_refl _)) (by omega) (by omega) (by omega) (st := []) (Nat.le_of_ble_eq_true rfl) rfl (kr_X (kr_V fun w2 hw2 => ?_)) (kx_X fun E2 w2 hx2 => ?_)
    · obtain rfl := hw2.symm
      refine J_aload_n (pc := 8) dX6_shares_8 rfl rfl rfl ?_
      obtain ⟨_, hc3, rfl⟩ := hS 0 _ rfl
      refine J_get (pc := 9) (k := 1) dX6_shares_9 kC7 (by decide) ff_X6_16 hc3 rfl ?_
      refine J_aload_n (pc := 12) dX6_shares_12 rfl rfl rfl ?_
      refine J_get (pc := 13) (k := 0) dX6_shares_13 kC7 (by decide) ff_X6_9 hc3 rfl ?_
      refine J_iload_n (pc := 16) dX6_shares_16 rfl rfl ?_
      refine J_ldc (pc := 17) (v := nI 1754760) dX6_shares_17 (by have := fk_X6_56; exact this) ?_
      refine J_aload_n (pc := 19) dX6_shares_19 rfl rfl rfl ?_
      refine J_get (pc := 20) (k := 5) dX6_shares_20 kC7 (by decide) ff_X6_41 hc3 rfl ?_
      obtain ⟨_, hc5, ka5, kf5, kb5, kg5, rfl, hb5_0, hb5_1⟩ := hS 2 _ rfl
      refine J_callV0 (pc := 23) (M := mX6_shares) (as := [.ref 1, .int p1, .int (nI 1754760), .int (nI n)]) dX6_shares_23 fw_X0_raise fl_X6_134 fm_X0_raise fe_X0_raise hc5 (by decide) rfl rfl rfl (c_X0_raise hs (d := d - 1) (by omega) (e := e) (r := r) (q := q) hn1 hn2 hS (w := w) p1 (nI 1754760) (kc := 0) (ks := 0)) (by omega) (st := []) (Nat.le_of_ble_eq_true rfl) rfl (kr_V fun w4 hw4 => ?_) kx_V
      obtain ⟨hS4, hF4⟩ := hw4
      have hG4 := hG.tr hF4
      refine J_aload_n (pc := 26) dX6_shares_26 rfl rfl rfl ?_
      obtain ⟨_, hc6, rfl⟩ := hS4 0 _ rfl
      refine J_get (pc := 27) (k := 1) dX6_shares_27 kC7 (by decide) ff_X6_16 hc6 rfl ?_
      refine J_aload_n (pc := 30) dX6_shares_30 rfl rfl rfl ?_
      refine J_get (pc := 31) (k := 0) dX6_shares_31 kC7 (by decide) ff_X6_9 hc6 rfl ?_
      refine J_iload_n (pc := 34) dX6_shares_34 rfl rfl ?_
      obtain ⟨_, hc8, ka8, kf8, kb8, kg8, rfl, hb8_0, hb8_1⟩ := hS4 2 _ rfl
      refine J_callV0 (pc := 35) (M := mX6_shares) (as := [.ref 1, .int p0]) dX6_shares_35 fw_X0_holdsAll fl_X6_209 fm_X0_holdsAll fe_X0_holdsAll hc8 (by decide) rfl rfl rfl (c_X0_holdsAll hs (d := d - 1) (by omega) (e := e) (r := r) (q := q) hn1 hn2 hS4 (w := w4) p0 (kc := 0) (ks := 0)) (by omega) (st := []) (Nat.le_of_ble_eq_true rfl) rfl (kr_P fun v7 hv7 => ?_) kx_I
      obtain ⟨k7, rfl, hk7⟩ := hv7
      refine J_if_neN (pc := 38) (tgt := 44) dX6_shares_38 (by decide) (by omega) (fun ht9 => ?_) (fun hf10 => ?_)
      · refine J_aload_n (pc := 44) dX6_shares_44 rfl rfl rfl ?_
        refine J_get (pc := 45) (k := 1) dX6_shares_45 kC7 (by decide) ff_X6_16 hc6 rfl ?_
        refine J_callV0 (pc := 48) (M := mX6_shares) (as := []) dX6_shares_48 fw_X0_total fl_X6_138 fm_X0_total fe_X0_total hc8 (by decide) rfl rfl rfl (c_X0_total hs (d := d - 1) (by omega) (e := e) (r := r) (q := q) hn1 hn2 hS4 (w := w4)  (kc := 0) (ks := 0)) (by omega) (st := []) (Nat.le_of_ble_eq_true rfl) rfl (kr_P fun v11 hv11 => ?_) kx_I
        refine J_istore_n (pc := 51) dX6_shares_51 rfl (by decide) rfl ?_
        show J X mX6_shares d (kc - 1 - 1) (ks - 6 - 6) 52 [some (.ref 0), some (.int p0), some (.int p1), some (.int v11)] [] w4 _
        refine J_aload_n (pc := 52) dX6_shares_52 rfl rfl rfl ?_
        refine J_get (pc := 53) (k := 1) dX6_shares_53 kC7 (by decide) ff_X6_16 hc6 rfl ?_
        refine J_aload_n (pc := 56) dX6_shares_56 rfl rfl rfl ?_
        refine J_get (pc := 57) (k := 0) dX6_shares_57 kC7 (by decide) ff_X6_9 hc6 rfl ?_
        refine J_iload_n (pc := 60) dX6_shares_60 rfl rfl ?_
        refine J_ldc (pc := 61) (v := nI 1754760) dX6_shares_61 (by have := fk_X6_56; exact this) ?_
        refine J_aload_n (pc := 63) dX6_shares_63 rfl rfl rfl ?_
        refine J_get (pc := 64) (k := 5) dX6_shares_64 kC7 (by decide) ff_X6_41 hc6 rfl ?_
        refine J_callV0 (pc := 67) (M := mX6_shares) (as := [.ref 1, .int p0, .int (nI 1754760), .int (nI n)]) dX6_shares_67 fw_X0_raise fl_X6_134 fm_X0_raise fe_X0_raise hc8 (by decide) rfl rfl rfl (c_X0_raise hs (d := d - 1) (by omega) (e := e) (r := r) (q := q) hn1 hn2 hS4 (w := w4) p0 (nI 1754760) (kc := 0) (ks := 0)) (by omega) (st := []) (Nat.le_of_ble_eq_true rfl) rfl (kr_V fun w12 hw12 => ?_) kx_V
        obtain ⟨hS12, hF12⟩ := hw12
        have hG12 := hG4.tr hF12
        refine J_iload_n (pc := 70) dX6_shares_70 rfl rfl ?_
        refine J_aload_n (pc := 71) dX6_shares_71 rfl rfl rfl ?_
        obtain ⟨_, hc13, rfl⟩ := hS12 0 _ rfl
        refine J_get (pc := 72) (k := 1) dX6_shares_72 kC7 (by decide) ff_X6_16 hc13 rfl ?_
        obtain ⟨_, hc15, ka15, kf15, kb15, kg15, rfl, hb15_0, hb15_1⟩ := hS12 2 _ rfl
        refine J_callV0 (pc := 75) (M := mX6_shares) (as := []) dX6_shares_75 fw_X0_total fl_X6_138 fm_X0_total fe_X0_total hc15 (by decide) rfl rfl rfl (c_X0_total hs (d := d - 1) (by omega) (e := e) (r := r) (q := q) hn1 hn2 hS12 (w := w12)  (kc := 0) (ks := 0)) (by omega) (st := [.int v11]) (Nat.le_of_ble_eq_true rfl) rfl (kr_P fun v14 hv14 => ?_) kx_I
        refine J_callS0 (pc := 78) (M := mX6_shares) (as := [.int v11, .int v14]) dX6_shares_78 fw_X6_quotient fl_X6_213 fs_X6_quotient rfl (c_X6_quotient hs (d := d - 1) (by omega) (w := w12) v11 v14 (kc := 0) (ks := 0)) (by omega) (st := []) (Nat.le_of_ble_eq_true rfl) rfl (kr_P fun v16 hv16 => ?_) kx_I
        exact J_iret (pc := 81) dX6_shares_81 rfl ⟨trivial, ⟨hS12, hG12⟩⟩
      · refine J_bipush (pc := 41) (v := (-9)) dX6_shares_41 (by decide) ?_
        exact J_iret (pc := 43) dX6_shares_43 rfl ⟨trivial, ⟨hS4, hG4⟩⟩
    · exact JX_out (fun _ h => nomatch h) (by obtain ⟨h1, h2⟩ := hx2; exact ⟨h1, by subst h2; exact ⟨hS.push, hG.tr Fr.push⟩⟩)
  · exact JX_out (fun _ h => nomatch h) (by obtain ⟨h1, h2⟩ := hx1; exact ⟨h1, by subst h2; exact ⟨hS.push, hG.tr Fr.push⟩⟩)
set_option maxRecDepth 100000 in
set_option maxHeartbeats 4000000 in
theorem c_X6_share {X : jX} (hs : X.1.stackTraces = false) {d : Nat} (hd : 14 ≤ d) {n : Nat} {e r q : Int32} (hn1 : 2 ≤ n) (hn2 : n ≤ 7) {w : List jC} (hS : SH (rX n e r q) w) (p0 : Int32) (p1 : Int32) {kc ks : Nat} (hkc : 2 ≤ kc) (hks : 12 ≤ ks) : jMet X mX6_share d kc ks [.ref 0, .int p0, .int p1] w (pX (pI (fun _ => True) (fun w' => rS n e r q w w')) (fun E w' => (E = "java/lang/IndexOutOfBoundsException" ∨ E = "java/lang/IllegalArgumentException") ∧ rS n e r q w w')) := by
  refine jMet_of hs (by decide +kernel) (Nat.le_of_ble_eq_true rfl) (L := [some (.ref 0), some (.int p0), some (.int p1)]) rfl ?_
  have hG : Fr kX w w := Fr.rf
  refine J_iload_n (pc := 0) dX6_share_0 rfl rfl ?_
  refine J_callS (pc := 1) (M := mX6_share) (as := [.int p1]) dX6_share_1 fw_X6_needCell fl_X6_67 fs_X6_needCell rfl (c_X6_needCell hs (d := d - 1) (by omega) (w := w) p1 (kc := 1) (ks := 6) (Nat.le_refl _) (Nat.le_refl _)) (by omega) (by omega) (by omega) (st := []) (Nat.le_of_ble_eq_true rfl) rfl (kr_X (kr_V fun w1 hw1 => ?_)) (kx_X fun E1 w1 hx1 => ?_)
  · obtain ⟨hq1, hp1⟩ := hw1
    obtain rfl := hq1.symm
    obtain ⟨b1, hb1, rfl⟩ := hp1
    refine J_iload_n (pc := 4) dX6_share_4 rfl rfl ?_
    refine J_callS (pc := 5) (M := mX6_share) (as := [.int p0]) dX6_share_5 fw_X6_needSet fl_X6_131 fs_X6_needSet rfl (c_X6_needSet hs (d := d - 1) (by omega) (w := w) p0 (kc := 1) (ks := 6) (Nat.le_refl _) (Nat.le_refl _)) (by omega) (by omega) (by omega) (st := []) (Nat.le_of_ble_eq_true rfl) rfl (kr_X (kr_V fun w2 hw2 => ?_)) (kx_X fun E2 w2 hx2 => ?_)
    · obtain rfl := hw2.symm
      refine J_aload_n (pc := 8) dX6_share_8 rfl rfl rfl ?_
      obtain ⟨_, hc3, rfl⟩ := hS 0 _ rfl
      refine J_get (pc := 9) (k := 1) dX6_share_9 kC7 (by decide) ff_X6_16 hc3 rfl ?_
      refine J_aload_n (pc := 12) dX6_share_12 rfl rfl rfl ?_
      refine J_get (pc := 13) (k := 0) dX6_share_13 kC7 (by decide) ff_X6_9 hc3 rfl ?_
      refine J_iload_n (pc := 16) dX6_share_16 rfl rfl ?_
      refine J_ldc (pc := 17) (v := nI 1754760) dX6_share_17 (by have := fk_X6_56; exact this) ?_
      refine J_aload_n (pc := 19) dX6_share_19 rfl rfl rfl ?_
      refine J_get (pc := 20) (k := 5) dX6_share_20 kC7 (by decide) ff_X6_41 hc3 rfl ?_
      obtain ⟨_, hc5, ka5, kf5, kb5, kg5, rfl, hb5_0, hb5_1⟩ := hS 2 _ rfl
      refine J_callV0 (pc := 23) (M := mX6_share) (as := [.ref 1, .int p0, .int (nI 1754760), .int (nI n)]) dX6_share_23 fw_X0_raise fl_X6_134 fm_X0_raise fe_X0_raise hc5 (by decide) rfl rfl rfl (c_X0_raise hs (d := d - 1) (by omega) (e := e) (r := r) (q := q) hn1 hn2 hS (w := w) p0 (nI 1754760) (kc := 0) (ks := 0)) (by omega) (st := []) (Nat.le_of_ble_eq_true rfl) rfl (kr_V fun w4 hw4 => ?_) kx_V
      obtain ⟨hS4, hF4⟩ := hw4
      have hG4 := hG.tr hF4
      refine J_aload_n (pc := 26) dX6_share_26 rfl rfl rfl ?_
      obtain ⟨_, hc6, rfl⟩ := hS4 0 _ rfl
      refine J_get (pc := 27) (k := 1) dX6_share_27 kC7 (by decide) ff_X6_16 hc6 rfl ?_
      refine J_iconst (pc := 30) (v := nI 0) dX6_share_30 (by decide) ?_
      refine J_aload_n (pc := 31) dX6_share_31 rfl rfl rfl ?_
      refine J_get (pc := 32) (k := 0) dX6_share_32 kC7 (by decide) ff_X6_9 hc6 rfl ?_
      refine J_iload_n (pc := 35) dX6_share_35 rfl rfl ?_
      obtain ⟨_, hc7, xs7, rfl, hl7⟩ := hS4 1 _ rfl
      refine J_iald (pc := 36) dX6_share_36 hc7 (nI_in (by omega) (by omega)) (J_absI fun x8 => ?_)
      obtain ⟨_, hc10, ka10, kf10, kb10, kg10, rfl, hb10_0, hb10_1⟩ := hS4 2 _ rfl
      refine J_callV0 (pc := 37) (M := mX6_share) (as := [.int (nI 0), .int x8]) dX6_share_37 fw_X0_moveAt fl_X6_141 fm_X0_moveAt fe_X0_moveAt hc10 (by decide) rfl rfl rfl (c_X0_moveAt hs (d := d - 1) (by omega) (e := e) (r := r) (q := q) hn1 hn2 hS4 (w := w4) (nI 0) x8 (kc := 0) (ks := 0)) (by omega) (st := []) (Nat.le_of_ble_eq_true rfl) rfl (kr_P fun v9 hv9 => ?_) kx_I
      refine J_aload_n (pc := 40) dX6_share_40 rfl rfl rfl ?_
      refine J_get (pc := 41) (k := 5) dX6_share_41 kC7 (by decide) ff_X6_41 hc6 rfl ?_
      refine J_callS0 (pc := 44) (M := mX6_share) (as := [.int v9, .int (nI n)]) dX6_share_44 fw_X2_numberOf fl_X6_75 fs_X2_numberOf rfl (c_X2_numberOf hs (d := d - 1) (by omega) (w := w4) v9 n (by omega) (kc := 0) (ks := 0)) (by omega) (st := []) (Nat.le_of_ble_eq_true rfl) rfl (kr_P fun v11 hv11 => ?_) kx_I
      exact J_iret (pc := 47) dX6_share_47 rfl ⟨trivial, ⟨hS4, hG4⟩⟩
    · exact JX_out (fun _ h => nomatch h) (by obtain ⟨h1, h2⟩ := hx2; exact ⟨Or.inr h1, by subst h2; exact ⟨hS.push, hG.tr Fr.push⟩⟩)
  · exact JX_out (fun _ h => nomatch h) (by obtain ⟨h1, h2⟩ := hx1; exact ⟨Or.inl h1, by subst h2; exact ⟨hS.push, hG.tr Fr.push⟩⟩)
set_option maxRecDepth 100000 in
set_option maxHeartbeats 4000000 in
theorem c_X6_together {X : jX} (hs : X.1.stackTraces = false) {d : Nat} (hd : 14 ≤ d) {n : Nat} {e r q : Int32} (hn1 : 2 ≤ n) (hn2 : n ≤ 7) {w : List jC} (hS : SH (rX n e r q) w) (p0 : Int32) (p1 : Int32) (p2 : Int32) {kc ks : Nat} (hkc : 3 ≤ kc) (hks : 18 ≤ ks) : jMet X mX6_together d kc ks [.ref 0, .int p0, .int p1, .int p2] w (pX (pI (fun _ => True) (fun w' => rS n e r q w w')) (fun E w' => (E = "java/lang/IndexOutOfBoundsException" ∨ E = "java/lang/IllegalArgumentException") ∧ rS n e r q w w')) := by
  refine jMet_of hs (by decide +kernel) (Nat.le_of_ble_eq_true rfl) (L := [some (.ref 0), some (.int p0), some (.int p1), some (.int p2)]) rfl ?_
  have hG : Fr kX w w := Fr.rf
  refine J_aload_n (pc := 0) dX6_together_0 rfl rfl rfl ?_
  refine J_iload_n (pc := 1) dX6_together_1 rfl rfl ?_
  obtain ⟨_, hc2, rfl⟩ := hS 0 _ rfl
  refine J_callV (pc := 2) (M := mX6_together) (as := [.int p1]) dX6_together_2 fw_X6_needPoint fl_X6_86 fm_X6_needPoint fe_X6_needPoint hc2 (by decide) rfl rfl rfl (c_X6_needPoint hs (d := d - 1) (by omega) (e := e) (r := r) (q := q) hn1 hn2 hS (w := w) p1 (kc := 1) (ks := 6) (Nat.le_refl _) (Nat.le_refl _)) (by omega) (by omega) (by omega) (st := []) (Nat.le_of_ble_eq_true rfl) rfl (kr_X (kr_V fun w1 hw1 => ?_)) (kx_X fun E1 w1 hx1 => ?_)
  · obtain ⟨hq1, hp1⟩ := hw1
    obtain rfl := hq1.symm
    obtain ⟨b1, hb1, rfl⟩ := hp1
    refine J_aload_n (pc := 5) dX6_together_5 rfl rfl rfl ?_
    refine J_iload_n (pc := 6) dX6_together_6 rfl rfl ?_
    refine J_callV (pc := 7) (M := mX6_together) (as := [.int p2]) dX6_together_7 fw_X6_needPoint fl_X6_86 fm_X6_needPoint fe_X6_needPoint hc2 (by decide) rfl rfl rfl (c_X6_needPoint hs (d := d - 1) (by omega) (e := e) (r := r) (q := q) hn1 hn2 hS (w := w) p2 (kc := 1) (ks := 6) (Nat.le_refl _) (Nat.le_refl _)) (by omega) (by omega) (by omega) (st := []) (Nat.le_of_ble_eq_true rfl) rfl (kr_X (kr_V fun w3 hw3 => ?_)) (kx_X fun E3 w3 hx3 => ?_)
    · obtain ⟨hq3, hp3⟩ := hw3
      obtain rfl := hq3.symm
      obtain ⟨b3, hb3, rfl⟩ := hp3
      refine J_iload_n (pc := 10) dX6_together_10 rfl rfl ?_
      refine J_callS (pc := 11) (M := mX6_together) (as := [.int p0]) dX6_together_11 fw_X6_needSet fl_X6_131 fs_X6_needSet rfl (c_X6_needSet hs (d := d - 1) (by omega) (w := w) p0 (kc := 1) (ks := 6) (Nat.le_refl _) (Nat.le_refl _)) (by omega) (by omega) (by omega) (st := []) (Nat.le_of_ble_eq_true rfl) rfl (kr_X (kr_V fun w4 hw4 => ?_)) (kx_X fun E4 w4 hx4 => ?_)
      · obtain rfl := hw4.symm
        refine J_aload_n (pc := 14) dX6_together_14 rfl rfl rfl ?_
        refine J_get (pc := 15) (k := 3) dX6_together_15 kC7 (by decide) ff_X6_30 hc2 rfl ?_
        refine J_aload_n (pc := 18) dX6_together_18 rfl rfl rfl ?_
        refine J_get (pc := 19) (k := 0) dX6_together_19 kC7 (by decide) ff_X6_9 hc2 rfl ?_
        refine J_iload_n (pc := 22) dX6_together_22 rfl rfl ?_
        refine J_iload_n (pc := 23) dX6_together_23 rfl rfl ?_
        refine J_iload_n (pc := 24) dX6_together_24 rfl rfl ?_
        refine J_aload_n (pc := 25) dX6_together_25 rfl rfl rfl ?_
        refine J_get (pc := 26) (k := 5) dX6_together_26 kC7 (by decide) ff_X6_41 hc2 rfl ?_
        obtain ⟨_, hc6, ka6, rfl, hb6_0⟩ := hS 12 _ rfl
        refine J_callV0 (pc := 29) (M := mX6_together) (as := [.ref 1, .int p0, .int (nI b1), .int (nI b3), .int (nI n)]) dX6_together_29 fw_X4_joinBlocks fl_X6_216 fm_X4_joinBlocks fe_X4_joinBlocks hc6 (by decide) rfl rfl rfl (c_X4_joinBlocks hs (d := d - 1) (by omega) (e := e) (r := r) (q := q) hn1 hn2 hS (w := w) p0 b1 b3 (by omega) (by omega) (kc := 0) (ks := 0)) (by omega) (st := []) (Nat.le_of_ble_eq_true rfl) rfl (kr_V fun w5 hw5 => ?_) kx_V
        obtain ⟨hS5, hF5⟩ := hw5
        have hG5 := hG.tr hF5
        refine J_aload_n (pc := 32) dX6_together_32 rfl rfl rfl ?_
        obtain ⟨_, hc7, rfl⟩ := hS5 0 _ rfl
        refine J_get (pc := 33) (k := 3) dX6_together_33 kC7 (by decide) ff_X6_30 hc7 rfl ?_
        refine J_iload_n (pc := 36) dX6_together_36 rfl rfl ?_
        obtain ⟨_, hc9, ka9, rfl, hb9_0⟩ := hS5 12 _ rfl
        refine J_callV0 (pc := 37) (M := mX6_together) (as := [.int (nI b1)]) dX6_together_37 fw_X4_partWith fl_X6_190 fm_X4_partWith fe_X4_partWith hc9 (by decide) rfl rfl rfl (c_X4_partWith hs (d := d - 1) (by omega) (e := e) (r := r) (q := q) hn1 hn2 hS5 (w := w5) (nI b1) (kc := 0) (ks := 0)) (by omega) (st := []) (Nat.le_of_ble_eq_true rfl) rfl (kr_P fun v8 hv8 => ?_) kx_I
        exact J_iret (pc := 40) dX6_together_40 rfl ⟨trivial, ⟨hS5, hG5⟩⟩
      · exact JX_out (fun _ h => nomatch h) (by obtain ⟨h1, h2⟩ := hx4; exact ⟨Or.inr h1, by subst h2; exact ⟨hS.push, hG.tr Fr.push⟩⟩)
    · exact JX_out (fun _ h => nomatch h) (by obtain ⟨h1, h2⟩ := hx3; exact ⟨Or.inl h1, by subst h2; exact ⟨hS.push, hG.tr Fr.push⟩⟩)
  · exact JX_out (fun _ h => nomatch h) (by obtain ⟨h1, h2⟩ := hx1; exact ⟨Or.inl h1, by subst h2; exact ⟨hS.push, hG.tr Fr.push⟩⟩)
end
section
/-! contracts of the class -/
set_option maxRecDepth 100000 in
set_option maxHeartbeats 4000000 in
theorem c_X6_blocks {X : jX} (hs : X.1.stackTraces = false) {d : Nat} (hd : 14 ≤ d) {n : Nat} {e r q : Int32} (hn1 : 2 ≤ n) (hn2 : n ≤ 7) {w : List jC} (hS : SH (rX n e r q) w) (p0 : Int32) (p1 : Int32) (p2 : Int32) {kc ks : Nat} (hkc : 3 ≤ kc) (hks : 18 ≤ ks) : jMet X mX6_blocks d kc ks [.ref 0, .int p0, .int p1, .int p2] w (pX (pI (fun _ => True) (fun w' => rS n e r q w w')) (fun E w' => (E = "java/lang/IndexOutOfBoundsException" ∨ E = "java/lang/IllegalArgumentException") ∧ rS n e r q w w')) := by
  refine jMet_of hs (by decide +kernel) (Nat.le_of_ble_eq_true rfl) (L := [some (.ref 0), some (.int p0), some (.int p1), some (.int p2)]) rfl ?_
  have hG : Fr kX w w := Fr.rf
  refine J_aload_n (pc := 0) dX6_blocks_0 rfl rfl rfl ?_
  refine J_iload_n (pc := 1) dX6_blocks_1 rfl rfl ?_
  obtain ⟨_, hc2, rfl⟩ := hS 0 _ rfl
  refine J_callV (pc := 2) (M := mX6_blocks) (as := [.int p1]) dX6_blocks_2 fw_X6_needPoint fl_X6_86 fm_X6_needPoint fe_X6_needPoint hc2 (by decide) rfl rfl rfl (c_X6_needPoint hs (d := d - 1) (by omega) (e := e) (r := r) (q := q) hn1 hn2 hS (w := w) p1 (kc := 1) (ks := 6) (Nat.le_refl _) (Nat.le_refl _)) (by omega) (by omega) (by omega) (st := []) (Nat.le_of_ble_eq_true rfl) rfl (kr_X (kr_V fun w1 hw1 => ?_)) (kx_X fun E1 w1 hx1 => ?_)
  · obtain ⟨hq1, hp1⟩ := hw1
    obtain rfl := hq1.symm
    obtain ⟨b1, hb1, rfl⟩ := hp1
    refine J_aload_n (pc := 5) dX6_blocks_5 rfl rfl rfl ?_
    refine J_iload_n (pc := 6) dX6_blocks_6 rfl rfl ?_
    refine J_callV (pc := 7) (M := mX6_blocks) (as := [.int p2]) dX6_blocks_7 fw_X6_needPoint fl_X6_86 fm_X6_needPoint fe_X6_needPoint hc2 (by decide) rfl rfl rfl (c_X6_needPoint hs (d := d - 1) (by omega) (e := e) (r := r) (q := q) hn1 hn2 hS (w := w) p2 (kc := 1) (ks := 6) (Nat.le_refl _) (Nat.le_refl _)) (by omega) (by omega) (by omega) (st := []) (Nat.le_of_ble_eq_true rfl) rfl (kr_X (kr_V fun w3 hw3 => ?_)) (kx_X fun E3 w3 hx3 => ?_)
    · obtain ⟨hq3, hp3⟩ := hw3
      obtain rfl := hq3.symm
      obtain ⟨b3, hb3, rfl⟩ := hp3
      refine J_iload_n (pc := 10) dX6_blocks_10 rfl rfl ?_
      refine J_callS (pc := 11) (M := mX6_blocks) (as := [.int p0]) dX6_blocks_11 fw_X6_needSet fl_X6_131 fs_X6_needSet rfl (c_X6_needSet hs (d := d - 1) (by omega) (w := w) p0 (kc := 1) (ks := 6) (Nat.le_refl _) (Nat.le_refl _)) (by omega) (by omega) (by omega) (st := []) (Nat.le_of_ble_eq_true rfl) rfl (kr_X (kr_V fun w4 hw4 => ?_)) (kx_X fun E4 w4 hx4 => ?_)
      · obtain rfl := hw4.symm
        refine J_aload_n (pc := 14) dX6_blocks_14 rfl rfl rfl ?_
        refine J_get (pc := 15) (k := 3) dX6_blocks_15 kC7 (by decide) ff_X6_30 hc2 rfl ?_
        refine J_aload_n (pc := 18) dX6_blocks_18 rfl rfl rfl ?_
        refine J_get (pc := 19) (k := 0) dX6_blocks_19 kC7 (by decide) ff_X6_9 hc2 rfl ?_
        refine J_iload_n (pc := 22) dX6_blocks_22 rfl rfl ?_
        refine J_iload_n (pc := 23) dX6_blocks_23 rfl rfl ?_
        refine J_iload_n (pc := 24) dX6_blocks_24 rfl rfl ?_
        refine J_aload_n (pc := 25) dX6_blocks_25 rfl rfl rfl ?_
        refine J_get (pc := 26) (k := 5) dX6_blocks_26 kC7 (by decide) ff_X6_41 hc2 rfl ?_
        obtain ⟨_, hc6, ka6, rfl, hb6_0⟩ := hS 12 _ rfl
        refine J_callV0 (pc := 29) (M := mX6_blocks) (as := [.ref 1, .int p0, .int (nI b1), .int (nI b3), .int (nI n)]) dX6_blocks_29 fw_X4_joinBlocks fl_X6_216 fm_X4_joinBlocks fe_X4_joinBlocks hc6 (by decide) rfl rfl rfl (c_X4_joinBlocks hs (d := d - 1) (by omega) (e := e) (r := r) (q := q) hn1 hn2 hS (w := w) p0 b1 b3 (by omega) (by omega) (kc := 0) (ks := 0)) (by omega) (st := []) (Nat.le_of_ble_eq_true rfl) rfl (kr_V fun w5 hw5 => ?_) kx_V
        obtain ⟨hS5, hF5⟩ := hw5
        have hG5 := hG.tr hF5
        refine J_aload_n (pc := 32) dX6_blocks_32 rfl rfl rfl ?_
        obtain ⟨_, hc7, rfl⟩ := hS5 0 _ rfl
        refine J_get (pc := 33) (k := 3) dX6_blocks_33 kC7 (by decide) ff_X6_30 hc7 rfl ?_
        obtain ⟨_, hc9, ka9, rfl, hb9_0⟩ := hS5 12 _ rfl
        refine J_callV0 (pc := 36) (M := mX6_blocks) (as := []) dX6_blocks_36 fw_X4_parts fl_X6_193 fm_X4_parts fe_X4_parts hc9 (by decide) rfl rfl rfl (c_X4_parts hs (d := d - 1) (by omega) (e := e) (r := r) (q := q) hn1 hn2 hS5 (w := w5)  (kc := 0) (ks := 0)) (by omega) (st := []) (Nat.le_of_ble_eq_true rfl) rfl (kr_P fun v8 hv8 => ?_) kx_I
        exact J_iret (pc := 39) dX6_blocks_39 rfl ⟨trivial, ⟨hS5, hG5⟩⟩
      · exact JX_out (fun _ h => nomatch h) (by obtain ⟨h1, h2⟩ := hx4; exact ⟨Or.inr h1, by subst h2; exact ⟨hS.push, hG.tr Fr.push⟩⟩)
    · exact JX_out (fun _ h => nomatch h) (by obtain ⟨h1, h2⟩ := hx3; exact ⟨Or.inl h1, by subst h2; exact ⟨hS.push, hG.tr Fr.push⟩⟩)
  · exact JX_out (fun _ h => nomatch h) (by obtain ⟨h1, h2⟩ := hx1; exact ⟨Or.inl h1, by subst h2; exact ⟨hS.push, hG.tr Fr.push⟩⟩)
set_option maxRecDepth 100000 in
set_option maxHeartbeats 4000000 in
theorem c_X6_isTwofold {X : jX} (hs : X.1.stackTraces = false) {d : Nat} (hd : 14 ≤ d) {n : Nat} {e r q : Int32} (hn1 : 2 ≤ n) (hn2 : n ≤ 7) {w : List jC} (hS : SH (rX n e r q) w) (p0 : Int32) {kc ks : Nat} (hkc : 1 ≤ kc) (hks : 6 ≤ ks) : jMet X mX6_isTwofold d kc ks [.ref 0, .int p0] w (pX (pI (fun v => ∃ k : Nat, v = nI k ∧ k < 2) (fun w' => rS n e r q w w')) (fun E w' => (E = "java/lang/IllegalArgumentException") ∧ rS n e r q w w')) := by
  refine jMet_of hs (by decide +kernel) (Nat.le_of_ble_eq_true rfl) (L := [some (.ref 0), some (.int p0)]) rfl ?_
  have hG : Fr kX w w := Fr.rf
  refine J_iload_n (pc := 0) dX6_isTwofold_0 rfl rfl ?_
  refine J_callS (pc := 1) (M := mX6_isTwofold) (as := [.int p0]) dX6_isTwofold_1 fw_X6_needSet fl_X6_131 fs_X6_needSet rfl (c_X6_needSet hs (d := d - 1) (by omega) (w := w) p0 (kc := 1) (ks := 6) (Nat.le_refl _) (Nat.le_refl _)) (by omega) (by omega) (by omega) (st := []) (Nat.le_of_ble_eq_true rfl) rfl (kr_X (kr_V fun w1 hw1 => ?_)) (kx_X fun E1 w1 hx1 => ?_)
  · obtain rfl := hw1.symm
    refine J_aload_n (pc := 4) dX6_isTwofold_4 rfl rfl rfl ?_
    obtain ⟨_, hc2, rfl⟩ := hS 0 _ rfl
    refine J_get (pc := 5) (k := 1) dX6_isTwofold_5 kC7 (by decide) ff_X6_16 hc2 rfl ?_
    refine J_aload_n (pc := 8) dX6_isTwofold_8 rfl rfl rfl ?_
    refine J_get (pc := 9) (k := 0) dX6_isTwofold_9 kC7 (by decide) ff_X6_9 hc2 rfl ?_
    refine J_iload_n (pc := 12) dX6_isTwofold_12 rfl rfl ?_
    refine J_ldc (pc := 13) (v := nI 1754760) dX6_isTwofold_13 (by have := fk_X6_56; exact this) ?_
    refine J_aload_n (pc := 15) dX6_isTwofold_15 rfl rfl rfl ?_
    refine J_get (pc := 16) (k := 5) dX6_isTwofold_16 kC7 (by decide) ff_X6_41 hc2 rfl ?_
    obtain ⟨_, hc4, ka4, kf4, kb4, kg4, rfl, hb4_0, hb4_1⟩ := hS 2 _ rfl
    refine J_callV0 (pc := 19) (M := mX6_isTwofold) (as := [.ref 1, .int p0, .int (nI 1754760), .int (nI n)]) dX6_isTwofold_19 fw_X0_raise fl_X6_134 fm_X0_raise fe_X0_raise hc4 (by decide) rfl rfl rfl (c_X0_raise hs (d := d - 1) (by omega) (e := e) (r := r) (q := q) hn1 hn2 hS (w := w) p0 (nI 1754760) (kc := 0) (ks := 0)) (by omega) (st := []) (Nat.le_of_ble_eq_true rfl) rfl (kr_V fun w3 hw3 => ?_) kx_V
    obtain ⟨hS3, hF3⟩ := hw3
    have hG3 := hG.tr hF3
    refine J_aload_n (pc := 22) dX6_isTwofold_22 rfl rfl rfl ?_
    obtain ⟨_, hc5, rfl⟩ := hS3 0 _ rfl
    refine J_get (pc := 23) (k := 1) dX6_isTwofold_23 kC7 (by decide) ff_X6_16 hc5 rfl ?_
    refine J_iconst (pc := 26) (v := nI 0) dX6_isTwofold_26 (by decide) ?_
    obtain ⟨_, hc7, ka7, kf7, kb7, kg7, rfl, hb7_0, hb7_1⟩ := hS3 2 _ rfl
    refine J_callV0 (pc := 27) (M := mX6_isTwofold) (as := [.int (nI 0)]) dX6_isTwofold_27 fw_X0_reachAt fl_X6_170 fm_X0_reachAt fe_X0_reachAt hc7 (by decide) rfl rfl rfl (c_X0_reachAt hs (d := d - 1) (by omega) (e := e) (r := r) (q := q) hn1 hn2 hS3 (w := w3) (nI 0) (kc := 0) (ks := 0)) (by omega) (st := []) (Nat.le_of_ble_eq_true rfl) rfl (kr_P fun v6 hv6 => ?_) kx_I
    refine J_callS0 (pc := 30) (M := mX6_isTwofold) (as := [.int v6]) dX6_isTwofold_30 fw_J6_bitCount_0f7a4 fl_X6_220 fs_J6_bitCount_0f7a4 rfl (c_J6_bitCount_0f7a4 hs (d := d - 1) (by omega) (w := w3) v6 (kc := 0) (ks := 0)) (by omega) (st := []) (Nat.le_of_ble_eq_true rfl) rfl (kr_P fun v8 hv8 => ?_) kx_I
    obtain ⟨k8, rfl, hk8⟩ := hv8
    refine J_aload_n (pc := 33) dX6_isTwofold_33 rfl rfl rfl ?_
    refine J_get (pc := 34) (k := 5) dX6_isTwofold_34 kC7 (by decide) ff_X6_41 hc5 rfl ?_
    refine J_icmp_neN (pc := 37) (tgt := 64) dX6_isTwofold_37 (by decide) (by omega) (by omega) (fun ht9 => ?_) (fun hf10 => ?_)
    · refine J_iconst (pc := 64) (v := nI 0) dX6_isTwofold_64 (by decide) ?_
      exact J_zret (pc := 65) dX6_isTwofold_65 rfl (nar_b (by omega)) ⟨⟨0, rfl, by omega⟩, ⟨hS3, hG3⟩⟩
    · refine J_aload_n (pc := 40) dX6_isTwofold_40 rfl rfl rfl ?_
      refine J_get (pc := 41) (k := 1) dX6_isTwofold_41 kC7 (by decide) ff_X6_16 hc5 rfl ?_
      refine J_iconst (pc := 44) (v := nI 1) dX6_isTwofold_44 (by decide) ?_
      refine J_callV0 (pc := 45) (M := mX6_isTwofold) (as := [.int (nI 1)]) dX6_isTwofold_45 fw_X0_reachAt fl_X6_170 fm_X0_reachAt fe_X0_reachAt hc7 (by decide) rfl rfl rfl (c_X0_reachAt hs (d := d - 1) (by omega) (e := e) (r := r) (q := q) hn1 hn2 hS3 (w := w3) (nI 1) (kc := 0) (ks := 0)) (by omega) (st := []) (Nat.le_of_ble_eq_true rfl) rfl (kr_P fun v11 hv11 => ?_) kx_I
      refine J_callS0 (pc := 48) (M := mX6_isTwofold) (as := [.int v11]) dX6_isTwofold_48 fw_J6_bitCount_0f7a4 fl_X6_220 fs_J6_bitCount_0f7a4 rfl (c_J6_bitCount_0f7a4 hs (d := d - 1) (by omega) (w := w3) v11 (kc := 0) (ks := 0)) (by omega) (st := []) (Nat.le_of_ble_eq_true rfl) rfl (kr_P fun v12 hv12 => ?_) kx_I
      obtain ⟨k12, rfl, hk12⟩ := hv12
      refine J_aload_n (pc := 51) dX6_isTwofold_51 rfl rfl rfl ?_
      refine J_get (pc := 52) (k := 5) dX6_isTwofold_52 kC7 (by decide) ff_X6_41 hc5 rfl ?_
      refine J_iconst (pc := 55) (v := nI 1) dX6_isTwofold_55 (by decide) ?_
      refine J_isubN (pc := 56) dX6_isTwofold_56 (by omega) ?_
      refine J_icmp_neN (pc := 57) (tgt := 64) dX6_isTwofold_57 (by decide) (by omega) (by omega) (fun ht13 => ?_) (fun hf14 => ?_)
      · refine J_iconst (pc := 64) (v := nI 0) dX6_isTwofold_64 (by decide) ?_
        exact J_zret (pc := 65) dX6_isTwofold_65 rfl (nar_b (by omega)) ⟨⟨0, rfl, by omega⟩, ⟨hS3, hG3⟩⟩
      · refine J_iconst (pc := 60) (v := nI 1) dX6_isTwofold_60 (by decide) ?_
        refine J_goto (pc := 61) (tgt := 65) dX6_isTwofold_61 (by decide) ?_
        exact J_zret (pc := 65) dX6_isTwofold_65 rfl (nar_b (by omega)) ⟨⟨1, rfl, by omega⟩, ⟨hS3, hG3⟩⟩
  · exact JX_out (fun _ h => nomatch h) (by obtain ⟨h1, h2⟩ := hx1; exact ⟨h1, by subst h2; exact ⟨hS.push, hG.tr Fr.push⟩⟩)
set_option maxRecDepth 100000 in
set_option maxHeartbeats 4000000 in
theorem c_X6_enough {X : jX} (hs : X.1.stackTraces = false) {d : Nat} (hd : 14 ≤ d) {n : Nat} {e r q : Int32} (hn1 : 2 ≤ n) (hn2 : n ≤ 7) {w : List jC} (hS : SH (rX n e r q) w) (p0 : Int32) {kc ks : Nat} (hkc : 1 ≤ kc) (hks : 6 ≤ ks) : jMet X mX6_enough d kc ks [.ref 0, .int p0] w (pX (pI (fun _ => True) (fun w' => rS n e r q w w')) (fun E w' => (E = "java/lang/IllegalArgumentException") ∧ rS n e r q w w')) := by
  refine jMet_of hs (by decide +kernel) (Nat.le_of_ble_eq_true rfl) (L := [some (.ref 0), some (.int p0)]) rfl ?_
  have hG : Fr kX w w := Fr.rf
  refine J_iload_n (pc := 0) dX6_enough_0 rfl rfl ?_
  refine J_callS (pc := 1) (M := mX6_enough) (as := [.int p0]) dX6_enough_1 fw_X6_needSet fl_X6_131 fs_X6_needSet rfl (c_X6_needSet hs (d := d - 1) (by omega) (w := w) p0 (kc := 1) (ks := 6) (Nat.le_refl _) (Nat.le_refl _)) (by omega) (by omega) (by omega) (st := []) (Nat.le_of_ble_eq_true rfl) rfl (kr_X (kr_V fun w1 hw1 => ?_)) (kx_X fun E1 w1 hx1 => ?_)
  · obtain rfl := hw1.symm
    refine J_aload_n (pc := 4) dX6_enough_4 rfl rfl rfl ?_
    obtain ⟨_, hc2, rfl⟩ := hS 0 _ rfl
    refine J_get (pc := 5) (k := 1) dX6_enough_5 kC7 (by decide) ff_X6_16 hc2 rfl ?_
    refine J_aload_n (pc := 8) dX6_enough_8 rfl rfl rfl ?_
    refine J_get (pc := 9) (k := 0) dX6_enough_9 kC7 (by decide) ff_X6_9 hc2 rfl ?_
    refine J_iload_n (pc := 12) dX6_enough_12 rfl rfl ?_
    refine J_ldc (pc := 13) (v := nI 1754760) dX6_enough_13 (by have := fk_X6_56; exact this) ?_
    refine J_aload_n (pc := 15) dX6_enough_15 rfl rfl rfl ?_
    refine J_get (pc := 16) (k := 5) dX6_enough_16 kC7 (by decide) ff_X6_41 hc2 rfl ?_
    obtain ⟨_, hc4, ka4, kf4, kb4, kg4, rfl, hb4_0, hb4_1⟩ := hS 2 _ rfl
    refine J_callV0 (pc := 19) (M := mX6_enough) (as := [.ref 1, .int p0, .int (nI 1754760), .int (nI n)]) dX6_enough_19 fw_X0_raise fl_X6_134 fm_X0_raise fe_X0_raise hc4 (by decide) rfl rfl rfl (c_X0_raise hs (d := d - 1) (by omega) (e := e) (r := r) (q := q) hn1 hn2 hS (w := w) p0 (nI 1754760) (kc := 0) (ks := 0)) (by omega) (st := []) (Nat.le_of_ble_eq_true rfl) rfl (kr_V fun w3 hw3 => ?_) kx_V
    obtain ⟨hS3, hF3⟩ := hw3
    have hG3 := hG.tr hF3
    refine J_aload_n (pc := 22) dX6_enough_22 rfl rfl rfl ?_
    obtain ⟨_, hc5, rfl⟩ := hS3 0 _ rfl
    refine J_get (pc := 23) (k := 1) dX6_enough_23 kC7 (by decide) ff_X6_16 hc5 rfl ?_
    obtain ⟨_, hc7, ka7, kf7, kb7, kg7, rfl, hb7_0, hb7_1⟩ := hS3 2 _ rfl
    refine J_callV0 (pc := 26) (M := mX6_enough) (as := []) dX6_enough_26 fw_X0_takenCells fl_X6_225 fm_X0_takenCells fe_X0_takenCells hc7 (by decide) rfl rfl rfl (c_X0_takenCells hs (d := d - 1) (by omega) (e := e) (r := r) (q := q) hn1 hn2 hS3 (w := w3)  (kc := 0) (ks := 0)) (by omega) (st := []) (Nat.le_of_ble_eq_true rfl) rfl (kr_P fun v6 hv6 => ?_) kx_I
    exact J_iret (pc := 29) dX6_enough_29 rfl ⟨trivial, ⟨hS3, hG3⟩⟩
  · exact JX_out (fun _ h => nomatch h) (by obtain ⟨h1, h2⟩ := hx1; exact ⟨h1, by subst h2; exact ⟨hS.push, hG.tr Fr.push⟩⟩)
end
section
/-! contracts of the class -/
set_option maxRecDepth 100000 in
set_option maxHeartbeats 4000000 in
theorem c_X6_house {X : jX} (hs : X.1.stackTraces = false) {d : Nat} (hd : 13 ≤ d) {n : Nat} {e r q : Int32} (hn1 : 2 ≤ n) (hn2 : n ≤ 7) {w : List jC} (hS : SH (rX n e r q) w) (p0 : Int32) {kc ks : Nat} (hkc : 1 ≤ kc) (hks : 6 ≤ ks) : jMet X mX6_house d kc ks [.ref 0, .int p0] w (pX (pI (fun _ => True) (fun w' => w' = w)) (fun E w' => (E = "java/lang/IllegalArgumentException") ∧ w' = w ++ [.inr (99, [])])) := by
  refine jMet_of hs (by decide +kernel) (Nat.le_of_ble_eq_true rfl) (L := [some (.ref 0), some (.int p0)]) rfl ?_
  have hG : Fr kX w w := Fr.rf
  refine J_iload_n (pc := 0) dX6_house_0 rfl rfl ?_
  refine J_iconst (pc := 1) (v := nI 0) dX6_house_1 (by decide) ?_
  refine J_iconst (pc := 2) (v := nI 2) dX6_house_2 (by decide) ?_
  refine J_callS (pc := 3) (M := mX6_house) (as := [.int p0, .int (nI 0), .int (nI 2)]) dX6_house_3 fw_X6_needBetween fl_X6_63 fs_X6_needBetween rfl (c_X6_needBetween hs (d := d - 1) (by omega) (w := w) p0 (nI 0) (nI 2) (kc := 1) (ks := 6) (Nat.le_refl _) (Nat.le_refl _)) (by omega) (by omega) (by omega) (st := []) (Nat.le_of_ble_eq_true rfl) rfl (kr_X (kr_V fun w1 hw1 => ?_)) (kx_X fun E1 w1 hx1 => ?_)
  · obtain ⟨hq1, hpa1, hpb1⟩ := hw1
    obtain rfl := hq1.symm
    obtain ⟨b1, hb1, hc1, rfl⟩ := nI_btw hpa1 hpb1 (by omega) (by omega)
    refine J_iload_n (pc := 6) dX6_house_6 rfl rfl ?_
    refine J_if_neN (pc := 7) (tgt := 15) dX6_house_7 (by decide) (by omega) (fun ht2 => ?_) (fun hf3 => ?_)
    · refine J_iload_n (pc := 15) dX6_house_15 rfl rfl ?_
      refine J_iconst (pc := 16) (v := nI 1) dX6_house_16 (by decide) ?_
      refine J_icmp_neN (pc := 17) (tgt := 27) dX6_house_17 (by decide) (by omega) (by omega) (fun ht4 => ?_) (fun hf5 => ?_)
      · refine J_aload_n (pc := 27) dX6_house_27 rfl rfl rfl ?_
        obtain ⟨_, hc6, rfl⟩ := hS 0 _ rfl
        refine J_get (pc := 28) (k := 8) dX6_house_28 kC7 (by decide) ff_X6_51 hc6 rfl ?_
        exact J_iret (pc := 31) dX6_house_31 rfl ⟨trivial, rfl⟩
      · refine J_aload_n (pc := 20) dX6_house_20 rfl rfl rfl ?_
        obtain ⟨_, hc7, rfl⟩ := hS 0 _ rfl
        refine J_get (pc := 21) (k := 7) dX6_house_21 kC7 (by decide) ff_X6_48 hc7 rfl ?_
        refine J_goto (pc := 24) (tgt := 31) dX6_house_24 (by decide) ?_
        exact J_iret (pc := 31) dX6_house_31 rfl ⟨trivial, rfl⟩
    · refine J_aload_n (pc := 10) dX6_house_10 rfl rfl rfl ?_
      obtain ⟨_, hc8, rfl⟩ := hS 0 _ rfl
      refine J_get (pc := 11) (k := 6) dX6_house_11 kC7 (by decide) ff_X6_45 hc8 rfl ?_
      exact J_iret (pc := 14) dX6_house_14 rfl ⟨trivial, rfl⟩
  · exact JX_out (fun _ h => nomatch h) (by obtain ⟨h1, h2⟩ := hx1; exact ⟨h1, h2⟩)
set_option maxRecDepth 100000 in
set_option maxHeartbeats 4000000 in
theorem c_X6_knock {X : jX} (hs : X.1.stackTraces = false) {d : Nat} (hd : 0 ≤ d) {n : Nat} {e r q : Int32} (hn1 : 2 ≤ n) (hn2 : n ≤ 7) {w : List jC} (hS : SH (rX n e r q) w) {kc ks : Nat} : jMet X mX6_knock d kc ks [.ref 0] w (pI (fun v => v = q + nI 1) (fun w' => rS n e r (q + nI 1) w w')) := by
  refine jMet_of hs (by decide +kernel) (Nat.le_of_ble_eq_true rfl) (L := [some (.ref 0)]) rfl ?_
  have hG : Fr kX w w := Fr.rf
  refine J_aload_n (pc := 0) dX6_knock_0 rfl rfl rfl ?_
  refine J_dup (pc := 1) dX6_knock_1 rfl ?_
  obtain ⟨_, hc1, rfl⟩ := hS 0 _ rfl
  refine J_get (pc := 2) (k := 8) dX6_knock_2 kC7 (by decide) ff_X6_51 hc1 rfl ?_
  refine J_iconst (pc := 5) (v := nI 1) dX6_knock_5 (by decide) ?_
  refine J_iadd (pc := 6) dX6_knock_6 ?_
  refine J_put0 (pc := 7) (n' := n) (e' := e) (r' := r) (q' := (q + nI 1)) (k := 8) dX6_knock_7 kC7 (by decide) ff_X6_51 (Or.inl rfl) ⟨rfl, rfl⟩ hS (by decide) rfl (fun w2 hS2 hne2 hF2 => ?_)
  have hG2 := hG.tr hF2
  refine J_aload_n (pc := 10) dX6_knock_10 rfl rfl rfl ?_
  obtain ⟨_, hc3, rfl⟩ := hS2 0 _ rfl
  refine J_get (pc := 11) (k := 8) dX6_knock_11 kC7 (by decide) ff_X6_51 hc3 rfl ?_
  exact J_iret (pc := 14) dX6_knock_14 rfl ⟨rfl, ⟨hS2, hG2⟩⟩
set_option maxRecDepth 100000 in
set_option maxHeartbeats 4000000 in
theorem c_X6_raiseAll {X : jX} (hs : X.1.stackTraces = false) {d : Nat} (hd : 5 ≤ d) {n : Nat} {e r q : Int32} (hn1 : 2 ≤ n) (hn2 : n ≤ 7) {w : List jC} (hS : SH (rX n e r q) w) {kc ks : Nat} : jMet X mX6_raiseAll d kc ks [.ref 0] w (pV (fun w' => rS n e r q w w')) := by
  refine jMet_of hs (by decide +kernel) (Nat.le_of_ble_eq_true rfl) (L := [some (.ref 0)]) rfl ?_
  have hG : Fr kX w w := Fr.rf
  refine J_aload_n (pc := 0) dX6_raiseAll_0 rfl rfl rfl ?_
  obtain ⟨_, hc1, rfl⟩ := hS 0 _ rfl
  refine J_get (pc := 1) (k := 1) dX6_raiseAll_1 kC7 (by decide) ff_X6_16 hc1 rfl ?_
  refine J_aload_n (pc := 4) dX6_raiseAll_4 rfl rfl rfl ?_
  refine J_get (pc := 5) (k := 0) dX6_raiseAll_5 kC7 (by decide) ff_X6_9 hc1 rfl ?_
  refine J_bipush (pc := 8) (v := nI 63) dX6_raiseAll_8 (by decide) ?_
  refine J_aload_n (pc := 10) dX6_raiseAll_10 rfl rfl rfl ?_
  refine J_get (pc := 11) (k := 0) dX6_raiseAll_11 kC7 (by decide) ff_X6_9 hc1 rfl ?_
  refine J_iconst (pc := 14) (v := nI 0) dX6_raiseAll_14 (by decide) ?_
  obtain ⟨_, hc2, xs2, rfl, hl2⟩ := hS 1 _ rfl
  refine J_iald (pc := 15) dX6_raiseAll_15 hc2 (nI_in (by omega) (by omega)) (J_absI fun x3 => ?_)
  refine J_aload_n (pc := 16) dX6_raiseAll_16 rfl rfl rfl ?_
  refine J_get (pc := 17) (k := 5) dX6_raiseAll_17 kC7 (by decide) ff_X6_41 hc1 rfl ?_
  obtain ⟨_, hc5, ka5, kf5, kb5, kg5, rfl, hb5_0, hb5_1⟩ := hS 2 _ rfl
  refine J_callV0 (pc := 20) (M := mX6_raiseAll) (as := [.ref 1, .int (nI 63), .int x3, .int (nI n)]) dX6_raiseAll_20 fw_X0_raise fl_X6_134 fm_X0_raise fe_X0_raise hc5 (by decide) rfl rfl rfl (c_X0_raise hs (d := d - 1) (by omega) (e := e) (r := r) (q := q) hn1 hn2 hS (w := w) (nI 63) x3 (kc := 0) (ks := 0)) (by omega) (st := []) (Nat.le_of_ble_eq_true rfl) rfl (kr_V fun w4 hw4 => ?_) kx_V
  obtain ⟨hS4, hF4⟩ := hw4
  have hG4 := hG.tr hF4
  refine J_aload_n (pc := 23) dX6_raiseAll_23 rfl rfl rfl ?_
  obtain ⟨_, hc6, rfl⟩ := hS4 0 _ rfl
  refine J_get (pc := 24) (k := 2) dX6_raiseAll_24 kC7 (by decide) ff_X6_23 hc6 rfl ?_
  refine J_aload_n (pc := 27) dX6_raiseAll_27 rfl rfl rfl ?_
  refine J_get (pc := 28) (k := 0) dX6_raiseAll_28 kC7 (by decide) ff_X6_9 hc6 rfl ?_
  refine J_bipush (pc := 31) (v := nI 63) dX6_raiseAll_31 (by decide) ?_
  refine J_aload_n (pc := 33) dX6_raiseAll_33 rfl rfl rfl ?_
  refine J_get (pc := 34) (k := 5) dX6_raiseAll_34 kC7 (by decide) ff_X6_41 hc6 rfl ?_
  obtain ⟨_, hc8, ka8, rfl, hb8_0⟩ := hS4 8 _ rfl
  refine J_callV0 (pc := 37) (M := mX6_raiseAll) (as := [.ref 1, .int (nI 63), .int (nI n)]) dX6_raiseAll_37 fw_X5_goThrough fl_X6_177 fm_X5_goThrough fe_X5_goThrough hc8 (by decide) rfl rfl rfl (c_X5_goThrough hs (d := d - 1) (by omega) (e := e) (r := r) (q := q) hn1 hn2 hS4 (w := w4) (nI 63) (kc := 0) (ks := 0)) (by omega) (st := []) (Nat.le_of_ble_eq_true rfl) rfl (kr_V fun w7 hw7 => ?_) kx_V
  obtain ⟨hS7, hF7⟩ := hw7
  have hG7 := hG4.tr hF7
  exact J_vret (pc := 40) dX6_raiseAll_40 rfl (⟨hS7, hG7⟩)
set_option maxRecDepth 100000 in
set_option maxHeartbeats 4000000 in
theorem c_X6_sizesAgree {X : jX} (hs : X.1.stackTraces = false) {d : Nat} (hd : 2 ≤ d) {n : Nat} {e r q : Int32} (hn1 : 2 ≤ n) (hn2 : n ≤ 7) {w : List jC} (hS : SH (rX n e r q) w) {kc ks : Nat} : jMet X mX6_sizesAgree d kc ks [.ref 0] w (pI (fun v => ∃ k : Nat, v = nI k ∧ k < 2) (fun w' => w' = w)) := by
  refine jMet_of hs (by decide +kernel) (Nat.le_of_ble_eq_true rfl) (L := [some (.ref 0)]) rfl ?_
  have hG : Fr kX w w := Fr.rf
  refine J_aload_n (pc := 0) dX6_sizesAgree_0 rfl rfl rfl ?_
  obtain ⟨_, hc1, rfl⟩ := hS 0 _ rfl
  refine J_get (pc := 1) (k := 1) dX6_sizesAgree_1 kC7 (by decide) ff_X6_16 hc1 rfl ?_
  obtain ⟨_, hc3, ka3, kf3, kb3, kg3, rfl, hb3_0, hb3_1⟩ := hS 2 _ rfl
  refine J_callV0 (pc := 4) (M := mX6_sizesAgree) (as := []) dX6_sizesAgree_4 fw_X0_total fl_X6_138 fm_X0_total fe_X0_total hc3 (by decide) rfl rfl rfl (c_X0_total hs (d := d - 1) (by omega) (e := e) (r := r) (q := q) hn1 hn2 hS (w := w)  (kc := 0) (ks := 0)) (by omega) (st := []) (Nat.le_of_ble_eq_true rfl) rfl (kr_P fun v2 hv2 => ?_) kx_I
  refine J_aload_n (pc := 7) dX6_sizesAgree_7 rfl rfl rfl ?_
  refine J_get (pc := 8) (k := 2) dX6_sizesAgree_8 kC7 (by decide) ff_X6_23 hc1 rfl ?_
  obtain ⟨_, hc5, ka5, rfl, hb5_0⟩ := hS 8 _ rfl
  refine J_callV0 (pc := 11) (M := mX6_sizesAgree) (as := []) dX6_sizesAgree_11 fw_X5_length fl_X6_283 fm_X5_length fe_X5_length hc5 (by decide) rfl rfl rfl (c_X5_length hs (d := d - 1) (by omega) (e := e) (r := r) (q := q) hn1 hn2 hS (w := w)  (kc := 0) (ks := 0)) (by omega) (st := [.int v2]) (Nat.le_of_ble_eq_true rfl) rfl (kr_P fun v4 hv4 => ?_) kx_I
  obtain ⟨k4, rfl, hk4⟩ := hv4
  refine J_icmp_ne (pc := 14) (tgt := 41) dX6_sizesAgree_14 (by decide) (fun ht6 => ?_) (fun hf7 => ?_)
  · refine J_iconst (pc := 41) (v := nI 0) dX6_sizesAgree_41 (by decide) ?_
    exact J_zret (pc := 42) dX6_sizesAgree_42 rfl (nar_b (by omega)) ⟨⟨0, rfl, by omega⟩, rfl⟩
  · refine J_aload_n (pc := 17) dX6_sizesAgree_17 rfl rfl rfl ?_
    refine J_get (pc := 18) (k := 1) dX6_sizesAgree_18 kC7 (by decide) ff_X6_16 hc1 rfl ?_
    refine J_callV0 (pc := 21) (M := mX6_sizesAgree) (as := []) dX6_sizesAgree_21 fw_X0_total fl_X6_138 fm_X0_total fe_X0_total hc3 (by decide) rfl rfl rfl (c_X0_total hs (d := d - 1) (by omega) (e := e) (r := r) (q := q) hn1 hn2 hS (w := w)  (kc := 0) (ks := 0)) (by omega) (st := []) (Nat.le_of_ble_eq_true rfl) rfl (kr_P fun v8 hv8 => ?_) kx_I
    refine J_aload_n (pc := 24) dX6_sizesAgree_24 rfl rfl rfl ?_
    refine J_get (pc := 25) (k := 5) dX6_sizesAgree_25 kC7 (by decide) ff_X6_41 hc1 rfl ?_
    refine J_callS0 (pc := 28) (M := mX6_sizesAgree) (as := [.int (nI n)]) dX6_sizesAgree_28 fw_X2_factorial fl_X6_71 fs_X2_factorial rfl (c_X2_factorial hs (d := d - 1) (by omega) (w := w) n (by omega) (kc := 0) (ks := 0)) (by omega) (st := [.int v8]) (Nat.le_of_ble_eq_true rfl) rfl (kr_P fun v9 hv9 => ?_) kx_I
    refine J_callS0 (pc := 31) (M := mX6_sizesAgree) (as := [.int v8, .int v9]) dX6_sizesAgree_31 fw_X6_divides fl_X6_284 fs_X6_divides rfl (c_X6_divides hs (d := d - 1) (by omega) (w := w) v8 v9 (kc := 0) (ks := 0)) (by omega) (st := []) (Nat.le_of_ble_eq_true rfl) rfl (kr_P fun v10 hv10 => ?_) kx_I
    obtain ⟨k10, rfl, hk10⟩ := hv10
    refine J_if_eqN (pc := 34) (tgt := 41) dX6_sizesAgree_34 (by decide) (by omega) (fun ht11 => ?_) (fun hf12 => ?_)
    · refine J_iconst (pc := 41) (v := nI 0) dX6_sizesAgree_41 (by decide) ?_
      exact J_zret (pc := 42) dX6_sizesAgree_42 rfl (nar_b (by omega)) ⟨⟨0, rfl, by omega⟩, rfl⟩
    · refine J_iconst (pc := 37) (v := nI 1) dX6_sizesAgree_37 (by decide) ?_
      refine J_goto (pc := 38) (tgt := 42) dX6_sizesAgree_38 (by decide) ?_
      exact J_zret (pc := 42) dX6_sizesAgree_42 rfl (nar_b (by omega)) ⟨⟨1, rfl, by omega⟩, rfl⟩
end
