/-! contracts of the class -/
set_option maxRecDepth 100000 in
set_option maxHeartbeats 4000000 in
theorem c_X6_needCell {X : jX} (hs : X.1.stackTraces = false) {d : Nat} (hd : 11 ≤ d) {w : List jC} (a : Int32) {kc ks : Nat} (hkc : 1 ≤ kc) (hks : 6 ≤ ks) : jMet X mX6_needCell d kc ks [.int a] w (pX (pV (fun w' => w' = w ∧ ∃ b : Nat, b < 6 ∧ a = nI b)) (fun E w' => (E = "java/lang/IndexOutOfBoundsException") ∧ w' = w ++ [.inr (99, [])])) := by
  refine jMet_of hs (by decide +kernel) (Nat.le_of_ble_eq_true rfl) (L := [some (.int a)]) rfl ?_
  refine J_iload_n (pc := 0) dX6_needCell_0 rfl rfl ?_
  refine J_if_lt (pc := 1) (tgt := 10) dX6_needCell_1 (by decide) (fun ht1 => ?_) (fun hf2 => ?_)
  · exact J_throw (pc := 10) (names := exN) (sa := 7) (text := "there is no such cell") (cls := "java/lang/IndexOutOfBoundsException") rfl (by decide +kernel) fc_X6_287 fz_IndexOutOfBoundsException (by decide) (by decide +kernel) (by decide +kernel) dX6_needCell_10 dX6_needCell_13 dX6_needCell_14 dX6_needCell_17 dX6_needCell_20 rfl (by show 2 + 9 ≤ d; omega) (Nat.le_of_ble_eq_true rfl) hkc hks ⟨rfl, rfl⟩
  · refine J_iload_n (pc := 4) dX6_needCell_4 rfl rfl ?_
    refine J_bipush (pc := 5) (v := nI 6) dX6_needCell_5 (by decide) ?_
    refine J_icmp_lt (pc := 7) (tgt := 21) dX6_needCell_7 (by decide) (fun ht3 => ?_) (fun hf4 => ?_)
    · obtain ⟨k5, hk5, rfl⟩ := nI_k2 ht3 (by omega) hf2
      exact J_vret (pc := 21) dX6_needCell_21 rfl (⟨rfl, ⟨_, by assumption, rfl⟩⟩)
    · exact J_throw (pc := 10) (names := exN) (sa := 7) (text := "there is no such cell") (cls := "java/lang/IndexOutOfBoundsException") rfl (by decide +kernel) fc_X6_287 fz_IndexOutOfBoundsException (by decide) (by decide +kernel) (by decide +kernel) dX6_needCell_10 dX6_needCell_13 dX6_needCell_14 dX6_needCell_17 dX6_needCell_20 rfl (by show 2 + 9 ≤ d; omega) (Nat.le_of_ble_eq_true rfl) hkc hks ⟨rfl, rfl⟩
set_option maxRecDepth 100000 in
set_option maxHeartbeats 4000000 in
theorem c_X6_needPoint {X : jX} (hs : X.1.stackTraces = false) {d : Nat} (hd : 11 ≤ d) {n : Nat} {e r q : Int32} (hn1 : 2 ≤ n) (hn2 : n ≤ 7) {w : List jC} (hS : SH (rX n e r q) w) (a : Int32) {kc ks : Nat} (hkc : 1 ≤ kc) (hks : 6 ≤ ks) : jMet X mX6_needPoint d kc ks [.ref 0, .int a] w (pX (pV (fun w' => w' = w ∧ ∃ b : Nat, b < n ∧ a = nI b)) (fun E w' => (E = "java/lang/IndexOutOfBoundsException") ∧ w' = w ++ [.inr (99, [])])) := by
  refine jMet_of hs (by decide +kernel) (Nat.le_of_ble_eq_true rfl) (L := [some (.ref 0), some (.int a)]) rfl ?_
  have hG : Fr kX w w := Fr.rf
  refine J_iload_n (pc := 0) dX6_needPoint_0 rfl rfl ?_
  refine J_if_lt (pc := 1) (tgt := 12) dX6_needPoint_1 (by decide) (fun ht1 => ?_) (fun hf2 => ?_)
  · exact J_throw (pc := 12) (names := exN) (sa := 8) (text := "there is no such point") (cls := "java/lang/IndexOutOfBoundsException") rfl (by decide +kernel) fc_X6_287 fz_IndexOutOfBoundsException (by decide) (by decide +kernel) (by decide +kernel) dX6_needPoint_12 dX6_needPoint_15 dX6_needPoint_16 dX6_needPoint_19 dX6_needPoint_22 rfl (by show 2 + 9 ≤ d; omega) (Nat.le_of_ble_eq_true rfl) hkc hks ⟨rfl, rfl⟩
  · refine J_iload_n (pc := 4) dX6_needPoint_4 rfl rfl ?_
    refine J_aload_n (pc := 5) dX6_needPoint_5 rfl rfl rfl ?_
    obtain ⟨_, hc3, rfl⟩ := hS 0 _ rfl
    refine J_get (pc := 6) (k := 5) dX6_needPoint_6 kC7 (by decide) ff_X6_41 hc3 rfl ?_
    refine J_icmp_lt (pc := 9) (tgt := 23) dX6_needPoint_9 (by decide) (fun ht4 => ?_) (fun hf5 => ?_)
    · obtain ⟨k6, hk6, rfl⟩ := nI_k2 ht4 (by omega) hf2
      exact J_vret (pc := 23) dX6_needPoint_23 rfl (⟨rfl, ⟨_, by assumption, rfl⟩⟩)
    · exact J_throw (pc := 12) (names := exN) (sa := 8) (text := "there is no such point") (cls := "java/lang/IndexOutOfBoundsException") rfl (by decide +kernel) fc_X6_287 fz_IndexOutOfBoundsException (by decide) (by decide +kernel) (by decide +kernel) dX6_needPoint_12 dX6_needPoint_15 dX6_needPoint_16 dX6_needPoint_19 dX6_needPoint_22 rfl (by show 2 + 9 ≤ d; omega) (Nat.le_of_ble_eq_true rfl) hkc hks ⟨rfl, rfl⟩
set_option maxRecDepth 100000 in
set_option maxHeartbeats 4000000 in
theorem c_X6_need {X : jX} (hs : X.1.stackTraces = false) {d : Nat} (hd : 11 ≤ d) {w : List jC} (a : Nat) (hy0 : a < 2) {kc ks : Nat} (hkc : 1 ≤ kc) (hks : 6 ≤ ks) : jMet X mX6_need d kc ks [.int (nI a)] w (pX (pV (fun w' => w' = w ∧ ¬ a = 0)) (fun E w' => (E = "java/lang/IllegalArgumentException") ∧ w' = w ++ [.inr (99, [])])) := by
  refine jMet_of hs (by decide +kernel) (Nat.le_of_ble_eq_true rfl) (L := [some (.int (nI a))]) rfl ?_
  refine J_iload_n (pc := 0) dX6_need_0 rfl rfl ?_
  refine J_if_neN (pc := 1) (tgt := 15) dX6_need_1 (by decide) (by omega) (fun ht1 => ?_) (fun hf2 => ?_)
  · exact J_vret (pc := 15) dX6_need_15 rfl (⟨rfl, by assumption⟩)
  · exact J_throw (pc := 4) (names := exN) (sa := 9) (text := "an argument is outside what the document lets") (cls := "java/lang/IllegalArgumentException") rfl (by decide +kernel) fc_X6_296 fz_IllegalArgumentException (by decide) (by decide +kernel) (by decide +kernel) dX6_need_4 dX6_need_7 dX6_need_8 dX6_need_11 dX6_need_14 rfl (by show 2 + 9 ≤ d; omega) (Nat.le_of_ble_eq_true rfl) hkc hks ⟨rfl, rfl⟩
set_option maxRecDepth 100000 in
set_option maxHeartbeats 4000000 in
theorem c_X6_needBetween {X : jX} (hs : X.1.stackTraces = false) {d : Nat} (hd : 12 ≤ d) {w : List jC} (a : Int32) (b : Int32) (c : Int32) {kc ks : Nat} (hkc : 1 ≤ kc) (hks : 6 ≤ ks) : jMet X mX6_needBetween d kc ks [.int a, .int b, .int c] w (pX (pV (fun w' => w' = w ∧ b ≤ a ∧ a ≤ c)) (fun E w' => (E = "java/lang/IllegalArgumentException") ∧ w' = w ++ [.inr (99, [])])) := by
  refine jMet_of hs (by decide +kernel) (Nat.le_of_ble_eq_true rfl) (L := [some (.int a), some (.int b), some (.int c)]) rfl ?_
  refine J_iload_n (pc := 0) dX6_needBetween_0 rfl rfl ?_
  refine J_iload_n (pc := 1) dX6_needBetween_1 rfl rfl ?_
  refine J_icmp_lt (pc := 2) (tgt := 14) dX6_needBetween_2 (by decide) (fun ht1 => ?_) (fun hf2 => ?_)
  · refine J_iconst (pc := 14) (v := nI 0) dX6_needBetween_14 (by decide) ?_
    refine J_callS (pc := 15) (as := [.int (nI 0)]) dX6_needBetween_15 fw_X6_need fl_X6_99 fs_X6_need rfl (c_X6_need hs (d := d - 1) (by omega) (w := w) 0 (by omega) (kc := 1) (ks := 6) (Nat.le_refl _) (Nat.le_refl _)) (by omega) (by omega) (by omega) (st := []) (Nat.le_of_ble_eq_true rfl) rfl (kr_X (kr_V fun w3 hw3 => ?_)) (kx_X fun E3 w3 hx3 => ?_)
    · exact absurd rfl hw3.2
    · exact JX_out (fun _ h => nomatch h) (by obtain ⟨h1, h2⟩ := hx3; exact ⟨h1, h2⟩)
  · refine J_iload_n (pc := 5) dX6_needBetween_5 rfl rfl ?_
    refine J_iload_n (pc := 6) dX6_needBetween_6 rfl rfl ?_
    refine J_icmp_gt (pc := 7) (tgt := 14) dX6_needBetween_7 (by decide) (fun ht4 => ?_) (fun hf5 => ?_)
    · refine J_iconst (pc := 14) (v := nI 0) dX6_needBetween_14 (by decide) ?_
      refine J_callS (pc := 15) (as := [.int (nI 0)]) dX6_needBetween_15 fw_X6_need fl_X6_99 fs_X6_need rfl (c_X6_need hs (d := d - 1) (by omega) (w := w) 0 (by omega) (kc := 1) (ks := 6) (Nat.le_refl _) (Nat.le_refl _)) (by omega) (by omega) (by omega) (st := []) (Nat.le_of_ble_eq_true rfl) rfl (kr_X (kr_V fun w6 hw6 => ?_)) (kx_X fun E6 w6 hx6 => ?_)
      · exact absurd rfl hw6.2
      · exact JX_out (fun _ h => nomatch h) (by obtain ⟨h1, h2⟩ := hx6; exact ⟨h1, h2⟩)
    · refine J_iconst (pc := 10) (v := nI 1) dX6_needBetween_10 (by decide) ?_
      refine J_goto (pc := 11) (tgt := 15) dX6_needBetween_11 (by decide) ?_
      refine J_callS (pc := 15) (as := [.int (nI 1)]) dX6_needBetween_15 fw_X6_need fl_X6_99 fs_X6_need rfl (c_X6_need hs (d := d - 1) (by omega) (w := w) 1 (by omega) (kc := 1) (ks := 6) (Nat.le_refl _) (Nat.le_refl _)) (by omega) (by omega) (by omega) (st := []) (Nat.le_of_ble_eq_true rfl) rfl (kr_X (kr_V fun w7 hw7 => ?_)) (kx_X fun E7 w7 hx7 => ?_)
      · obtain ⟨rfl, hp7⟩ := hw7
        exact J_vret (pc := 18) dX6_needBetween_18 rfl (⟨rfl, ⟨Int32.not_lt.mp (by assumption), Int32.not_lt.mp (by assumption)⟩⟩)
      · exact JX_out (fun _ h => nomatch h) (by obtain ⟨h1, h2⟩ := hx7; exact ⟨h1, h2⟩)
set_option maxRecDepth 100000 in
set_option maxHeartbeats 4000000 in
theorem c_X6_needSet {X : jX} (hs : X.1.stackTraces = false) {d : Nat} (hd : 13 ≤ d) {w : List jC} (a : Int32) {kc ks : Nat} (hkc : 1 ≤ kc) (hks : 6 ≤ ks) : jMet X mX6_needSet d kc ks [.int a] w (pX (pV (fun w' => w' = w)) (fun E w' => (E = "java/lang/IllegalArgumentException") ∧ w' = w ++ [.inr (99, [])])) := by
  refine jMet_of hs (by decide +kernel) (Nat.le_of_ble_eq_true rfl) (L := [some (.int a)]) rfl ?_
  refine J_iload_n (pc := 0) dX6_needSet_0 rfl rfl ?_
  refine J_iconst (pc := 1) (v := nI 0) dX6_needSet_1 (by decide) ?_
  refine J_bipush (pc := 2) (v := nI 63) dX6_needSet_2 (by decide) ?_
  refine J_callS (pc := 4) (as := [.int a, .int (nI 0), .int (nI 63)]) dX6_needSet_4 fw_X6_needBetween fl_X6_63 fs_X6_needBetween rfl (c_X6_needBetween hs (d := d - 1) (by omega) (w := w) a (nI 0) (nI 63) (kc := 1) (ks := 6) (Nat.le_refl _) (Nat.le_refl _)) (by omega) (by omega) (by omega) (st := []) (Nat.le_of_ble_eq_true rfl) rfl (kr_X (kr_V fun w1 hw1 => ?_)) (kx_X fun E1 w1 hx1 => ?_)
  · obtain ⟨rfl, hpa1, hpb1⟩ := hw1
    obtain ⟨b1, hb1, hc1, rfl⟩ := nI_btw hpa1 hpb1 (by omega) (by omega)
    exact J_vret (pc := 7) dX6_needSet_7 rfl (rfl)
  · exact JX_out (fun _ h => nomatch h) (by obtain ⟨h1, h2⟩ := hx1; exact ⟨h1, h2⟩)
set_option maxRecDepth 100000 in
set_option maxHeartbeats 4000000 in
theorem c_X6_keep {X : jX} (hs : X.1.stackTraces = false) {d : Nat} (hd : 0 ≤ d) {n : Nat} {e r q : Int32} (hn1 : 2 ≤ n) (hn2 : n ≤ 7) {w : List jC} (hS : SH (rX n e r q) w) (a : Nat) (b : Int32) (hy0 : a < 6) {kc ks : Nat} : jMet X mX6_keep d kc ks [.ref 0, .int (nI a), .int b] w (pV (fun w' => rT n q w w')) := by
  refine jMet_of hs (by decide +kernel) (Nat.le_of_ble_eq_true rfl) (L := [some (.ref 0), some (.int (nI a)), some (.int b)]) rfl ?_
  have hG : Fr kX w w := Fr.rf
  refine J_aload_n (pc := 0) dX6_keep_0 rfl rfl rfl ?_
  obtain ⟨_, hc1, rfl⟩ := hS 0 _ rfl
  refine J_get (pc := 1) (k := 0) dX6_keep_1 kC7 (by decide) ff_X6_9 hc1 rfl ?_
  refine J_iload_n (pc := 4) dX6_keep_4 rfl rfl ?_
  refine J_iload_n (pc := 5) dX6_keep_5 rfl rfl ?_
  obtain ⟨_, hc2, xs2, rfl, hl2⟩ := hS 1 _ rfl
  refine J_iastS (pc := 6) kX dX6_keep_6 hS hc2 (nI_in (by omega) (by omega)) rfl ⟨_, rfl, by rw [List.length_set]; exact hl2⟩ (by decide) (fun w3 hS3 hc3 hne3 hF3 => ?_)
  have hG3 := hG.tr hF3
  have hl3 : (List.set xs2 (nI a).toNatClampNeg b).length = 6 := by rw [List.length_set]; exact hl2
  generalize List.set xs2 (nI a).toNatClampNeg b = xs3 at hc3 hl3
  have hc1_v3 := (hne3 0 (by decide)).trans hc1
  refine J_aload_n (pc := 7) dX6_keep_7 rfl rfl rfl ?_
  refine J_dup (pc := 8) dX6_keep_8 rfl ?_
  refine J_get (pc := 9) (k := 6) dX6_keep_9 kC7 (by decide) ff_X6_45 hc1_v3 rfl ?_
  refine J_iconst (pc := 12) (v := nI 1) dX6_keep_12 (by decide) ?_
  refine J_iadd (pc := 13) dX6_keep_13 (J_absI fun x4 => ?_)
  refine J_put0 (pc := 14) (n' := n) (e' := x4) (r' := r) (q' := q) (k := 6) dX6_keep_14 kC7 (by decide) ff_X6_45 (Or.inl rfl) ⟨rfl, rfl⟩ hS3 (by decide) rfl (fun w5 hS5 hne5 hF5 => ?_)
  have hG5 := hG3.tr hF5
  have hc3_v5 := (hne5 1 (by decide)).trans hc3
  exact J_vret (pc := 17) dX6_keep_17 rfl (⟨_, _, hS5, hG5⟩)
set_option maxRecDepth 100000 in
set_option maxHeartbeats 4000000 in
theorem c_X6_keepForSign {X : jX} (hs : X.1.stackTraces = false) {d : Nat} (hd : 4 ≤ d) {n : Nat} {e r q : Int32} (hn1 : 2 ≤ n) (hn2 : n ≤ 7) {w : List jC} (hS : SH (rX n e r q) w) (a : Nat) (b : Int32) (hy0 : a < 6) {kc ks : Nat} : jMet X mX6_keepForSign d kc ks [.ref 0, .int (nI a), .int b] w (pI (fun _ => True) (fun w' => rT n q w w')) := by
  refine jMet_of hs (by decide +kernel) (Nat.le_of_ble_eq_true rfl) (L := [some (.ref 0), some (.int (nI a)), some (.int b)]) rfl ?_
  have hG : Fr kX w w := Fr.rf
  refine J_aload_n (pc := 0) dX6_keepForSign_0 rfl rfl rfl ?_
  refine J_iload_n (pc := 1) dX6_keepForSign_1 rfl rfl ?_
  refine J_iload_n (pc := 2) dX6_keepForSign_2 rfl rfl ?_
  obtain ⟨_, hc2, rfl⟩ := hS 0 _ rfl
  refine J_callV0 (pc := 3) (as := [.int (nI a), .int b]) dX6_keepForSign_3 fw_X6_keep fl_X6_82 fm_X6_keep fe_X6_keep hc2 (by decide) rfl rfl rfl (c_X6_keep hs (d := d - 1) (by omega) (e := e) (r := r) (q := q) hn1 hn2 hS (w := w) a b (by omega) (kc := 0) (ks := 0)) (by omega) (st := []) (Nat.le_of_ble_eq_true rfl) rfl (kr_V fun w1 hw1 => ?_) kx_V
  obtain ⟨e1, r1, hS1, hF1⟩ := hw1
  have hG1 := hG.tr hF1
  refine J_iload_n (pc := 6) dX6_keepForSign_6 rfl rfl ?_
  refine J_aload_n (pc := 7) dX6_keepForSign_7 rfl rfl rfl ?_
  obtain ⟨_, hc3, rfl⟩ := hS1 0 _ rfl
  refine J_get (pc := 8) (k := 5) dX6_keepForSign_8 kC7 (by decide) ff_X6_41 hc3 rfl ?_
  refine J_callS0 (pc := 11) (as := [.int b, .int (nI n)]) dX6_keepForSign_11 fw_X2_signOf fl_X6_167 fs_X2_signOf rfl (c_X2_signOf hs (d := d - 1) (by omega) (w := w1) b n (by omega) (kc := 0) (ks := 0)) (by omega) (st := []) (Nat.le_of_ble_eq_true rfl) rfl (kr_P fun v4 hv4 => ?_) kx_I
  exact J_iret (pc := 14) dX6_keepForSign_14 rfl ⟨trivial, ⟨_, _, hS1, hG1⟩⟩
set_option maxRecDepth 100000 in
set_option maxHeartbeats 4000000 in
theorem c_X6_keepForNumber {X : jX} (hs : X.1.stackTraces = false) {d : Nat} (hd : 3 ≤ d) {n : Nat} {e r q : Int32} (hn1 : 2 ≤ n) (hn2 : n ≤ 7) {w : List jC} (hS : SH (rX n e r q) w) (a : Nat) (b : Int32) (hy0 : a < 6) {kc ks : Nat} : jMet X mX6_keepForNumber d kc ks [.ref 0, .int (nI a), .int b] w (pI (fun _ => True) (fun w' => rT n q w w')) := by
  refine jMet_of hs (by decide +kernel) (Nat.le_of_ble_eq_true rfl) (L := [some (.ref 0), some (.int (nI a)), some (.int b)]) rfl ?_
  have hG : Fr kX w w := Fr.rf
  refine J_aload_n (pc := 0) dX6_keepForNumber_0 rfl rfl rfl ?_
  refine J_iload_n (pc := 1) dX6_keepForNumber_1 rfl rfl ?_
  refine J_iload_n (pc := 2) dX6_keepForNumber_2 rfl rfl ?_
  obtain ⟨_, hc2, rfl⟩ := hS 0 _ rfl
  refine J_callV0 (pc := 3) (as := [.int (nI a), .int b]) dX6_keepForNumber_3 fw_X6_keep fl_X6_82 fm_X6_keep fe_X6_keep hc2 (by decide) rfl rfl rfl (c_X6_keep hs (d := d - 1) (by omega) (e := e) (r := r) (q := q) hn1 hn2 hS (w := w) a b (by omega) (kc := 0) (ks := 0)) (by omega) (st := []) (Nat.le_of_ble_eq_true rfl) rfl (kr_V fun w1 hw1 => ?_) kx_V
  obtain ⟨e1, r1, hS1, hF1⟩ := hw1
  have hG1 := hG.tr hF1
  refine J_iload_n (pc := 6) dX6_keepForNumber_6 rfl rfl ?_
  refine J_aload_n (pc := 7) dX6_keepForNumber_7 rfl rfl rfl ?_
  obtain ⟨_, hc3, rfl⟩ := hS1 0 _ rfl
  refine J_get (pc := 8) (k := 5) dX6_keepForNumber_8 kC7 (by decide) ff_X6_41 hc3 rfl ?_
  refine J_callS0 (pc := 11) (as := [.int b, .int (nI n)]) dX6_keepForNumber_11 fw_X2_numberOf fl_X6_75 fs_X2_numberOf rfl (c_X2_numberOf hs (d := d - 1) (by omega) (w := w1) b n (by omega) (kc := 0) (ks := 0)) (by omega) (st := []) (Nat.le_of_ble_eq_true rfl) rfl (kr_P fun v4 hv4 => ?_) kx_I
  exact J_iret (pc := 14) dX6_keepForNumber_14 rfl ⟨trivial, ⟨_, _, hS1, hG1⟩⟩
set_option maxRecDepth 100000 in
set_option maxHeartbeats 4000000 in
theorem c_X6_cannot {X : jX} (hs : X.1.stackTraces = false) {d : Nat} (hd : 0 ≤ d) {n : Nat} {e r q : Int32} (hn1 : 2 ≤ n) (hn2 : n ≤ 7) {w : List jC} (hS : SH (rX n e r q) w) {kc ks : Nat} : jMet X mX6_cannot d kc ks [.ref 0] w (pI (fun _ => True) (fun w' => rT n q w w')) := by
  refine jMet_of hs (by decide +kernel) (Nat.le_of_ble_eq_true rfl) (L := [some (.ref 0)]) rfl ?_
  have hG : Fr kX w w := Fr.rf
  refine J_aload_n (pc := 0) dX6_cannot_0 rfl rfl rfl ?_
  refine J_dup (pc := 1) dX6_cannot_1 rfl ?_
  obtain ⟨_, hc1, rfl⟩ := hS 0 _ rfl
  refine J_get (pc := 2) (k := 7) dX6_cannot_2 kC7 (by decide) ff_X6_48 hc1 rfl ?_
  refine J_iconst (pc := 5) (v := nI 1) dX6_cannot_5 (by decide) ?_
  refine J_iadd (pc := 6) dX6_cannot_6 (J_absI fun x2 => ?_)
  refine J_put0 (pc := 7) (n' := n) (e' := e) (r' := x2) (q' := q) (k := 7) dX6_cannot_7 kC7 (by decide) ff_X6_48 (Or.inl rfl) ⟨rfl, rfl⟩ hS (by decide) rfl (fun w3 hS3 hne3 hF3 => ?_)
  have hG3 := hG.tr hF3
  refine J_bipush (pc := 10) (v := (-9)) dX6_cannot_10 (by decide) ?_
  exact J_iret (pc := 12) dX6_cannot_12 rfl ⟨trivial, ⟨_, _, hS3, hG3⟩⟩
set_option maxRecDepth 100000 in
set_option maxHeartbeats 4000000 in
theorem c_J7_fill_53178_at1 {X : jX} (hs : X.1.stackTraces = false) {d : Nat} (hd : 0 ≤ d) {n : Nat} {e r q : Int32} {w : List jC} (hS : SH (rX n e r q) w) (a : Int32) {kc ks : Nat} : jMet X mJ7_fill_53178 d kc ks [.ref 1, .int a] w (pV (fun w' => rS n e r q w w')) := by
  refine jMet_of hs (by decide +kernel) (Nat.le_of_ble_eq_true rfl) (L := [some (.ref 1), some (.int a), none, none]) rfl ?_
  have hG : Fr kX w w := Fr.rf
  refine J_iconst (pc := 0) (v := nI 0) dJ7_fill_53178_0 (by decide) ?_
  refine J_istore_n (pc := 1) dJ7_fill_53178_1 rfl (by decide) rfl ?_
  show J X mJ7_fill_53178 d kc ks 2 [some (.ref 1), some (.int a), some (.int (nI 0)), none] [] w _
  refine J_aload_n (pc := 2) dJ7_fill_53178_2 rfl rfl rfl ?_
  obtain ⟨_, hc1, xs1, rfl, hl1⟩ := hS 1 _ rfl
  refine J_alen (pc := 3) (n := nI 6) dJ7_fill_53178_3 hc1 (by decide) (by rw [hl1]; rfl) ?_
  refine J_istore_n (pc := 4) dJ7_fill_53178_4 rfl (by decide) rfl ?_
  show J X mJ7_fill_53178 d kc ks 5 [some (.ref 1), some (.int a), some (.int (nI 0)), some (.int (nI 6))] [] w _
  have lp5_2 : ∀ (fuel : Nat) (w3 : List jC) (c2 : Nat), SH (rX n e r q) w3 → Fr kX w w3 → c2 < 2147483648 → 6 - c2 < fuel → J X mJ7_fill_53178 d kc ks 5 [some (.ref 1), some (.int a), some (.int (nI c2)), some (.int (nI 6))] [] w3 (pV (fun w' => rS n e r q w w')) := by
    intro fuellp5_2
    induction fuellp5_2 with
    | zero => intros; omega
    | succ fuellp5_2 ihlp5_2 =>
      intro w3 c2 hS4 hG5 hi6 hf7
      refine J_iload_n (pc := 5) dJ7_fill_53178_5 rfl rfl ?_
      refine J_iload_n (pc := 6) dJ7_fill_53178_6 rfl rfl ?_
      refine J_icmp_geN (pc := 7) (tgt := 20) dJ7_fill_53178_7 (by decide) (by omega) (by omega) (fun ht8 => ?_) (fun hf9 => ?_)
      · exact J_vret (pc := 20) dJ7_fill_53178_20 rfl (⟨hS4, hG5⟩)
      · refine J_aload_n (pc := 10) dJ7_fill_53178_10 rfl rfl rfl ?_
        refine J_iload_n (pc := 11) dJ7_fill_53178_11 rfl rfl ?_
        refine J_iload_n (pc := 12) dJ7_fill_53178_12 rfl rfl ?_
        obtain ⟨_, hc10, xs10, rfl, hl10⟩ := hS4 1 _ rfl
        refine J_iastS (pc := 13) kX dJ7_fill_53178_13 hS4 hc10 (nI_in (by omega) (by omega)) rfl ⟨_, rfl, by rw [List.length_set]; exact hl10⟩ (by decide) (fun w11 hS11 hc11 hne11 hF11 => ?_)
        have hG11 := hG5.tr hF11
        have hl11 : (List.set xs10 (nI c2).toNatClampNeg a).length = 6 := by rw [List.length_set]; exact hl10
        generalize List.set xs10 (nI c2).toNatClampNeg a = xs11 at hc11 hl11
        refine J_iincN (pc := 14) (b := 1) dJ7_fill_53178_14 rfl (by decide) (by decide) rfl ?_
        show J X mJ7_fill_53178 d kc ks 17 [some (.ref 1), some (.int a), some (.int (nI (c2 + 1))), some (.int (nI 6))] [] w11 _
        refine J_goto (pc := 17) (tgt := 5) dJ7_fill_53178_17 (by decide) ?_
        exact J_sub (L' := [some (.ref 1), some (.int a), some (.int (nI (c2 + 1))), some (.int (nI 6))]) ⟨rfl, ⟨rfl, ⟨rfl, ⟨rfl, trivial⟩⟩⟩⟩ (ihlp5_2 w11 (c2 + 1) hS11 hG11 (by first | assumption | omega) (by omega))
  exact J_sub (L' := [some (.ref 1), some (.int a), some (.int (nI 0)), some (.int (nI 6))]) ⟨rfl, ⟨rfl, ⟨rfl, ⟨rfl, trivial⟩⟩⟩⟩ (lp5_2 _ w 0 hS hG (by first | assumption | omega) (Nat.lt_succ_self _))
set_option maxRecDepth 100000 in
set_option maxHeartbeats 4000000 in
theorem c_X6_points {X : jX} (hs : X.1.stackTraces = false) {d : Nat} (hd : 13 ≤ d) {n : Nat} {e r q : Int32} (hn1 : 2 ≤ n) (hn2 : n ≤ 7) {w : List jC} (hS : SH (rX n e r q) w) (p0 : Int32) {kc ks : Nat} (hkc : 1 ≤ kc) (hks : 6 ≤ ks) : jMet X mX6_points d kc ks [.ref 0, .int p0] w (pX (pI (fun v => ∃ k : Nat, v = nI k ∧ k = n) (fun w' => ∃ k : Nat, 2 ≤ k ∧ k ≤ 7 ∧ p0 = nI k ∧ rT k q w w')) (fun E w' => (E = "java/lang/IllegalArgumentException") ∧ rT n q w w')) := by
  refine jMet_of hs (by decide +kernel) (Nat.le_of_ble_eq_true rfl) (L := [some (.ref 0), some (.int p0), none]) rfl ?_
  have hG : Fr kX w w := Fr.rf
  refine J_iload_n (pc := 0) dX6_points_0 rfl rfl ?_
  refine J_iconst (pc := 1) (v := nI 2) dX6_points_1 (by decide) ?_
  refine J_bipush (pc := 2) (v := nI 7) dX6_points_2 (by decide) ?_
  refine J_callS (pc := 4) (as := [.int p0, .int (nI 2), .int (nI 7)]) dX6_points_4 fw_X6_needBetween fl_X6_63 fs_X6_needBetween rfl (c_X6_needBetween hs (d := d - 1) (by omega) (w := w) p0 (nI 2) (nI 7) (kc := 1) (ks := 6) (Nat.le_refl _) (Nat.le_refl _)) (by omega) (by omega) (by omega) (st := []) (Nat.le_of_ble_eq_true rfl) rfl (kr_X (kr_V fun w1 hw1 => ?_)) (kx_X fun E1 w1 hx1 => ?_)
  · obtain ⟨rfl, hpa1, hpb1⟩ := hw1
    obtain ⟨b1, hb1, hc1, rfl⟩ := nI_btw hpa1 hpb1 (by omega) (by omega)
    refine J_aload_n (pc := 7) dX6_points_7 rfl rfl rfl ?_
    obtain ⟨_, hc2, rfl⟩ := hS 0 _ rfl
    refine J_get (pc := 8) (k := 5) dX6_points_8 kC7 (by decide) ff_X6_41 hc2 rfl ?_
    refine J_istore_n (pc := 11) dX6_points_11 rfl (by decide) rfl ?_
    show J X mX6_points d (kc - 1) (ks - 6) 12 [some (.ref 0), some (.int (nI b1)), some (.int (nI n))] [] w _
    refine J_aload_n (pc := 12) dX6_points_12 rfl rfl rfl ?_
    refine J_iload_n (pc := 13) dX6_points_13 rfl rfl ?_
    refine J_put0 (pc := 14) (n' := b1) (e' := e) (r' := r) (q' := q) (k := 5) dX6_points_14 kC7 (by decide) ff_X6_41 (Or.inl rfl) ⟨rfl, rfl⟩ hS (by decide) rfl (fun w3 hS3 hne3 hF3 => ?_)
    have hG3 := hG.tr hF3
    refine J_aload_n (pc := 17) dX6_points_17 rfl rfl rfl ?_
    obtain ⟨_, hc4, rfl⟩ := hS3 0 _ rfl
    refine J_get (pc := 18) (k := 0) dX6_points_18 kC7 (by decide) ff_X6_9 hc4 rfl ?_
    refine J_ldc (pc := 21) (v := nI 1754760) dX6_points_21 (by have := fk_X6_56; exact this) ?_
    refine J_callS0 (pc := 23) (as := [.ref 1, .int (nI 1754760)]) dX6_points_23 fw_J7_fill_53178 fl_X6_57 fs_J7_fill_53178 rfl (c_J7_fill_53178_at1 hs (d := d - 1) (by omega) (n := b1) (e := e) (r := r) (q := q) hS3 (w := w3) (nI 1754760) (kc := 0) (ks := 0)) (by omega) (st := []) (Nat.le_of_ble_eq_true rfl) rfl (kr_V fun w5 hw5 => ?_) kx_V
    obtain ⟨hS5, hF5⟩ := hw5
    have hG5 := hG3.tr hF5
    refine J_aload_n (pc := 26) dX6_points_26 rfl rfl rfl ?_
    refine J_dup (pc := 27) dX6_points_27 rfl ?_
    obtain ⟨_, hc6, rfl⟩ := hS5 0 _ rfl
    refine J_get (pc := 28) (k := 6) dX6_points_28 kC7 (by decide) ff_X6_45 hc6 rfl ?_
    refine J_iconst (pc := 31) (v := nI 1) dX6_points_31 (by decide) ?_
    refine J_iadd (pc := 32) dX6_points_32 (J_absI fun x7 => ?_)
    refine J_put0 (pc := 33) (n' := b1) (e' := x7) (r' := r) (q' := q) (k := 6) dX6_points_33 kC7 (by decide) ff_X6_45 (Or.inl rfl) ⟨rfl, rfl⟩ hS5 (by decide) rfl (fun w8 hS8 hne8 hF8 => ?_)
    have hG8 := hG5.tr hF8
    refine J_iload_n (pc := 36) dX6_points_36 rfl rfl ?_
    exact J_iret (pc := 37) dX6_points_37 rfl ⟨⟨n, rfl, by omega⟩, ⟨_, by assumption, by assumption, rfl, _, _, hS8, hG8⟩⟩
  · exact JX_out (fun _ h => nomatch h) (by obtain ⟨h1, h2⟩ := hx1; exact ⟨h1, by subst h2; exact ⟨_, _, hS.push, hG.tr Fr.push⟩⟩)
set_option maxRecDepth 100000 in
set_option maxHeartbeats 4000000 in
theorem c_X6_lay {X : jX} (hs : X.1.stackTraces = false) {d : Nat} (hd : 13 ≤ d) {n : Nat} {e r q : Int32} (hn1 : 2 ≤ n) (hn2 : n ≤ 7) {w : List jC} (hS : SH (rX n e r q) w) (p0 : Int32) (p1 : Int32) {kc ks : Nat} (hkc : 2 ≤ kc) (hks : 12 ≤ ks) : jMet X mX6_lay d kc ks [.ref 0, .int p0, .int p1] w (pX (pI (fun _ => True) (fun w' => rT n q w w')) (fun E w' => (E = "java/lang/IndexOutOfBoundsException" ∨ E = "java/lang/IllegalArgumentException") ∧ rT n q w w')) := by
  refine jMet_of hs (by decide +kernel) (Nat.le_of_ble_eq_true rfl) (L := [some (.ref 0), some (.int p0), some (.int p1), none]) rfl ?_
  have hG : Fr kX w w := Fr.rf
  refine J_iload_n (pc := 0) dX6_lay_0 rfl rfl ?_
  refine J_callS (pc := 1) (as := [.int p0]) dX6_lay_1 fw_X6_needCell fl_X6_67 fs_X6_needCell rfl (c_X6_needCell hs (d := d - 1) (by omega) (w := w) p0 (kc := 1) (ks := 6) (Nat.le_refl _) (Nat.le_refl _)) (by omega) (by omega) (by omega) (st := []) (Nat.le_of_ble_eq_true rfl) rfl (kr_X (kr_V fun w1 hw1 => ?_)) (kx_X fun E1 w1 hx1 => ?_)
  · obtain ⟨rfl, hp1⟩ := hw1
    obtain ⟨b1, hb1, rfl⟩ := hp1
    refine J_iload_n (pc := 4) dX6_lay_4 rfl rfl ?_
    refine J_iconst (pc := 5) (v := nI 0) dX6_lay_5 (by decide) ?_
    refine J_aload_n (pc := 6) dX6_lay_6 rfl rfl rfl ?_
    obtain ⟨_, hc2, rfl⟩ := hS 0 _ rfl
    refine J_get (pc := 7) (k := 5) dX6_lay_7 kC7 (by decide) ff_X6_41 hc2 rfl ?_
    refine J_callS0 (pc := 10) (as := [.int (nI n)]) dX6_lay_10 fw_X2_factorial fl_X6_71 fs_X2_factorial rfl (c_X2_factorial hs (d := d - 1) (by omega) (w := w) n (by omega) (kc := 0) (ks := 0)) (by omega) (st := [.int (nI 0), .int p1]) (Nat.le_of_ble_eq_true rfl) rfl (kr_P fun v3 hv3 => ?_) kx_I
    refine J_iconst (pc := 13) (v := nI 1) dX6_lay_13 (by decide) ?_
    refine J_isub (pc := 14) dX6_lay_14 (J_absI fun x4 => ?_)
    refine J_callS (pc := 15) (as := [.int p1, .int (nI 0), .int x4]) dX6_lay_15 fw_X6_needBetween fl_X6_63 fs_X6_needBetween rfl (c_X6_needBetween hs (d := d - 1) (by omega) (w := w) p1 (nI 0) x4 (kc := 1) (ks := 6) (Nat.le_refl _) (Nat.le_refl _)) (by omega) (by omega) (by omega) (st := []) (Nat.le_of_ble_eq_true rfl) rfl (kr_X (kr_V fun w5 hw5 => ?_)) (kx_X fun E5 w5 hx5 => ?_)
    · obtain ⟨rfl, hpa5, hpb5⟩ := hw5
      refine J_aload_n (pc := 18) dX6_lay_18 rfl rfl rfl ?_
      refine J_get (pc := 19) (k := 0) dX6_lay_19 kC7 (by decide) ff_X6_9 hc2 rfl ?_
      refine J_iload_n (pc := 22) dX6_lay_22 rfl rfl ?_
      obtain ⟨_, hc6, xs6, rfl, hl6⟩ := hS 1 _ rfl
      refine J_iald (pc := 23) dX6_lay_23 hc6 (nI_in (by omega) (by omega)) (J_absI fun x7 => ?_)
      refine J_aload_n (pc := 24) dX6_lay_24 rfl rfl rfl ?_
      refine J_get (pc := 25) (k := 5) dX6_lay_25 kC7 (by decide) ff_X6_41 hc2 rfl ?_
      refine J_callS0 (pc := 28) (as := [.int x7, .int (nI n)]) dX6_lay_28 fw_X2_numberOf fl_X6_75 fs_X2_numberOf rfl (c_X2_numberOf hs (d := d - 1) (by omega) (w := w) x7 n (by omega) (kc := 0) (ks := 0)) (by omega) (st := []) (Nat.le_of_ble_eq_true rfl) rfl (kr_P fun v8 hv8 => ?_) kx_I
      refine J_istore_n (pc := 31) dX6_lay_31 rfl (by decide) rfl ?_
      show J X mX6_lay d (kc - 1 - 1) (ks - 6 - 6) 32 [some (.ref 0), some (.int (nI b1)), some (.int p1), some (.int v8)] [] w _
      refine J_aload_n (pc := 32) dX6_lay_32 rfl rfl rfl ?_
      refine J_iload_n (pc := 33) dX6_lay_33 rfl rfl ?_
      refine J_iload_n (pc := 34) dX6_lay_34 rfl rfl ?_
      refine J_aload_n (pc := 35) dX6_lay_35 rfl rfl rfl ?_
      refine J_get (pc := 36) (k := 5) dX6_lay_36 kC7 (by decide) ff_X6_41 hc2 rfl ?_
      refine J_callS0 (pc := 39) (as := [.int p1, .int (nI n)]) dX6_lay_39 fw_X2_withNumber fl_X6_79 fs_X2_withNumber rfl (c_X2_withNumber hs (d := d - 1) (by omega) (w := w) p1 n (by omega) (kc := 0) (ks := 0)) (by omega) (st := [.int (nI b1), .ref 0]) (Nat.le_of_ble_eq_true rfl) rfl (kr_P fun v9 hv9 => ?_) kx_I
      refine J_callV0 (pc := 42) (as := [.int (nI b1), .int v9]) dX6_lay_42 fw_X6_keep fl_X6_82 fm_X6_keep fe_X6_keep hc2 (by decide) rfl rfl rfl (c_X6_keep hs (d := d - 1) (by omega) (e := e) (r := r) (q := q) hn1 hn2 hS (w := w) b1 v9 (by omega) (kc := 0) (ks := 0)) (by omega) (st := []) (Nat.le_of_ble_eq_true rfl) rfl (kr_V fun w10 hw10 => ?_) kx_V
      obtain ⟨e10, r10, hS10, hF10⟩ := hw10
      have hG10 := hG.tr hF10
      refine J_iload_n (pc := 45) dX6_lay_45 rfl rfl ?_
      exact J_iret (pc := 46) dX6_lay_46 rfl ⟨trivial, ⟨_, _, hS10, hG10⟩⟩
    · exact JX_out (fun _ h => nomatch h) (by obtain ⟨h1, h2⟩ := hx5; exact ⟨Or.inr h1, by subst h2; exact ⟨_, _, hS.push, hG.tr Fr.push⟩⟩)
  · exact JX_out (fun _ h => nomatch h) (by obtain ⟨h1, h2⟩ := hx1; exact ⟨Or.inl h1, by subst h2; exact ⟨_, _, hS.push, hG.tr Fr.push⟩⟩)
set_option maxRecDepth 100000 in
set_option maxHeartbeats 4000000 in
theorem c_X6_exchange {X : jX} (hs : X.1.stackTraces = false) {d : Nat} (hd : 12 ≤ d) {n : Nat} {e r q : Int32} (hn1 : 2 ≤ n) (hn2 : n ≤ 7) {w : List jC} (hS : SH (rX n e r q) w) (p0 : Int32) (p1 : Int32) (p2 : Int32) {kc ks : Nat} (hkc : 3 ≤ kc) (hks : 18 ≤ ks) : jMet X mX6_exchange d kc ks [.ref 0, .int p0, .int p1, .int p2] w (pX (pI (fun _ => True) (fun w' => rT n q w w')) (fun E w' => (E = "java/lang/IndexOutOfBoundsException") ∧ rT n q w w')) := by
  refine jMet_of hs (by decide +kernel) (Nat.le_of_ble_eq_true rfl) (L := [some (.ref 0), some (.int p0), some (.int p1), some (.int p2), none]) rfl ?_
  have hG : Fr kX w w := Fr.rf
  refine J_iload_n (pc := 0) dX6_exchange_0 rfl rfl ?_
  refine J_callS (pc := 1) (as := [.int p0]) dX6_exchange_1 fw_X6_needCell fl_X6_67 fs_X6_needCell rfl (c_X6_needCell hs (d := d - 1) (by omega) (w := w) p0 (kc := 1) (ks := 6) (Nat.le_refl _) (Nat.le_refl _)) (by omega) (by omega) (by omega) (st := []) (Nat.le_of_ble_eq_true rfl) rfl (kr_X (kr_V fun w1 hw1 => ?_)) (kx_X fun E1 w1 hx1 => ?_)
  · obtain ⟨rfl, hp1⟩ := hw1
    obtain ⟨b1, hb1, rfl⟩ := hp1
    refine J_aload_n (pc := 4) dX6_exchange_4 rfl rfl rfl ?_
    refine J_iload_n (pc := 5) dX6_exchange_5 rfl rfl ?_
    obtain ⟨_, hc3, rfl⟩ := hS 0 _ rfl
    refine J_callV (pc := 6) (as := [.int p1]) dX6_exchange_6 fw_X6_needPoint fl_X6_86 fm_X6_needPoint fe_X6_needPoint hc3 (by decide) rfl rfl rfl (c_X6_needPoint hs (d := d - 1) (by omega) (e := e) (r := r) (q := q) hn1 hn2 hS (w := w) p1 (kc := 1) (ks := 6) (Nat.le_refl _) (Nat.le_refl _)) (by omega) (by omega) (by omega) (st := []) (Nat.le_of_ble_eq_true rfl) rfl (kr_X (kr_V fun w2 hw2 => ?_)) (kx_X fun E2 w2 hx2 => ?_)
    · obtain ⟨rfl, hp2⟩ := hw2
      obtain ⟨b2, hb2, rfl⟩ := hp2
      refine J_aload_n (pc := 9) dX6_exchange_9 rfl rfl rfl ?_
      refine J_iload_n (pc := 10) dX6_exchange_10 rfl rfl ?_
      refine J_callV (pc := 11) (as := [.int p2]) dX6_exchange_11 fw_X6_needPoint fl_X6_86 fm_X6_needPoint fe_X6_needPoint hc3 (by decide) rfl rfl rfl (c_X6_needPoint hs (d := d - 1) (by omega) (e := e) (r := r) (q := q) hn1 hn2 hS (w := w) p2 (kc := 1) (ks := 6) (Nat.le_refl _) (Nat.le_refl _)) (by omega) (by omega) (by omega) (st := []) (Nat.le_of_ble_eq_true rfl) rfl (kr_X (kr_V fun w4 hw4 => ?_)) (kx_X fun E4 w4 hx4 => ?_)
      · obtain ⟨rfl, hp4⟩ := hw4
        obtain ⟨b4, hb4, rfl⟩ := hp4
        refine J_ldc (pc := 14) (v := nI 1754760) dX6_exchange_14 (by have := fk_X6_56; exact this) ?_
        refine J_iload_n (pc := 16) dX6_exchange_16 rfl rfl ?_
        refine J_iload_n (pc := 17) dX6_exchange_17 rfl rfl ?_
        refine J_callS0 (pc := 18) (as := [.int (nI 1754760), .int (nI b2), .int (nI b4)]) dX6_exchange_18 fw_X2_with fl_X6_89 fs_X2_with rfl (c_X2_with hs (d := d - 1) (by omega) (w := w) (nI 1754760) (nI b2) (nI b4) (kc := 0) (ks := 0)) (by omega) (st := []) (Nat.le_of_ble_eq_true rfl) rfl (kr_P fun v5 hv5 => ?_) kx_I
        refine J_iload_n (pc := 21) dX6_exchange_21 rfl rfl ?_
        refine J_iload_n (pc := 22) dX6_exchange_22 rfl rfl ?_
        refine J_callS0 (pc := 23) (as := [.int v5, .int (nI b4), .int (nI b2)]) dX6_exchange_23 fw_X2_with fl_X6_89 fs_X2_with rfl (c_X2_with hs (d := d - 1) (by omega) (w := w) v5 (nI b4) (nI b2) (kc := 0) (ks := 0)) (by omega) (st := []) (Nat.le_of_ble_eq_true rfl) rfl (kr_P fun v6 hv6 => ?_) kx_I
        refine J_istore (pc := 26) dX6_exchange_26 (by decide) rfl ?_
        show J X mX6_exchange d (kc - 1 - 1 - 1) (ks - 6 - 6 - 6) 28 [some (.ref 0), some (.int (nI b1)), some (.int (nI b2)), some (.int (nI b4)), some (.int v6)] [] w _
        refine J_aload_n (pc := 28) dX6_exchange_28 rfl rfl rfl ?_
        refine J_iload_n (pc := 29) dX6_exchange_29 rfl rfl ?_
        refine J_aload_n (pc := 30) dX6_exchange_30 rfl rfl rfl ?_
        refine J_get (pc := 31) (k := 0) dX6_exchange_31 kC7 (by decide) ff_X6_9 hc3 rfl ?_
        refine J_iload_n (pc := 34) dX6_exchange_34 rfl rfl ?_
        obtain ⟨_, hc7, xs7, rfl, hl7⟩ := hS 1 _ rfl
        refine J_iald (pc := 35) dX6_exchange_35 hc7 (nI_in (by omega) (by omega)) (J_absI fun x8 => ?_)
        refine J_iload (pc := 36) dX6_exchange_36 rfl ?_
        refine J_callS0 (pc := 38) (as := [.int x8, .int v6]) dX6_exchange_38 fw_X2_both fl_X6_93 fs_X2_both rfl (c_X2_both hs (d := d - 1) (by omega) (w := w) x8 v6 (kc := 0) (ks := 0)) (by omega) (st := [.int (nI b1), .ref 0]) (Nat.le_of_ble_eq_true rfl) rfl (kr_P fun v9 hv9 => ?_) kx_I
        refine J_callV0 (pc := 41) (as := [.int (nI b1), .int v9]) dX6_exchange_41 fw_X6_keepForSign fl_X6_96 fm_X6_keepForSign fe_X6_keepForSign hc3 (by decide) rfl rfl rfl (c_X6_keepForSign hs (d := d - 1) (by omega) (e := e) (r := r) (q := q) hn1 hn2 hS (w := w) b1 v9 (by omega) (kc := 0) (ks := 0)) (by omega) (st := []) (Nat.le_of_ble_eq_true rfl) rfl (kr_I fun v10 w10 hv10 hw10 => ?_) kx_I
        obtain ⟨e10, r10, hS10, hF10⟩ := hw10
        have hG10 := hG.tr hF10
        exact J_iret (pc := 44) dX6_exchange_44 rfl ⟨trivial, ⟨_, _, hS10, hG10⟩⟩
      · exact JX_out (fun _ h => nomatch h) (by obtain ⟨h1, h2⟩ := hx4; exact ⟨h1, by subst h2; exact ⟨_, _, hS.push, hG.tr Fr.push⟩⟩)
    · exact JX_out (fun _ h => nomatch h) (by obtain ⟨h1, h2⟩ := hx2; exact ⟨h1, by subst h2; exact ⟨_, _, hS.push, hG.tr Fr.push⟩⟩)
  · exact JX_out (fun _ h => nomatch h) (by obtain ⟨h1, h2⟩ := hx1; exact ⟨h1, by subst h2; exact ⟨_, _, hS.push, hG.tr Fr.push⟩⟩)
set_option maxRecDepth 100000 in
set_option maxHeartbeats 4000000 in
theorem c_X6_ring {X : jX} (hs : X.1.stackTraces = false) {d : Nat} (hd : 12 ≤ d) {n : Nat} {e r q : Int32} (hn1 : 2 ≤ n) (hn2 : n ≤ 7) {w : List jC} (hS : SH (rX n e r q) w) (p0 : Int32) (p1 : Int32) (p2 : Int32) (p3 : Int32) {kc ks : Nat} (hkc : 5 ≤ kc) (hks : 30 ≤ ks) : jMet X mX6_ring d kc ks [.ref 0, .int p0, .int p1, .int p2, .int p3] w (pX (pI (fun _ => True) (fun w' => rT n q w w')) (fun E w' => (E = "java/lang/IndexOutOfBoundsException" ∨ E = "java/lang/IllegalArgumentException") ∧ rT n q w w')) := by
  refine jMet_of hs (by decide +kernel) (Nat.le_of_ble_eq_true rfl) (L := [some (.ref 0), some (.int p0), some (.int p1), some (.int p2), some (.int p3), none]) rfl ?_
  have hG : Fr kX w w := Fr.rf
  refine J_iload_n (pc := 0) dX6_ring_0 rfl rfl ?_
  refine J_callS (pc := 1) (as := [.int p0]) dX6_ring_1 fw_X6_needCell fl_X6_67 fs_X6_needCell rfl (c_X6_needCell hs (d := d - 1) (by omega) (w := w) p0 (kc := 1) (ks := 6) (Nat.le_refl _) (Nat.le_refl _)) (by omega) (by omega) (by omega) (st := []) (Nat.le_of_ble_eq_true rfl) rfl (kr_X (kr_V fun w1 hw1 => ?_)) (kx_X fun E1 w1 hx1 => ?_)
  · obtain ⟨rfl, hp1⟩ := hw1
    obtain ⟨b1, hb1, rfl⟩ := hp1
    refine J_aload_n (pc := 4) dX6_ring_4 rfl rfl rfl ?_
    refine J_iload_n (pc := 5) dX6_ring_5 rfl rfl ?_
    obtain ⟨_, hc3, rfl⟩ := hS 0 _ rfl
    refine J_callV (pc := 6) (as := [.int p1]) dX6_ring_6 fw_X6_needPoint fl_X6_86 fm_X6_needPoint fe_X6_needPoint hc3 (by decide) rfl rfl rfl (c_X6_needPoint hs (d := d - 1) (by omega) (e := e) (r := r) (q := q) hn1 hn2 hS (w := w) p1 (kc := 1) (ks := 6) (Nat.le_refl _) (Nat.le_refl _)) (by omega) (by omega) (by omega) (st := []) (Nat.le_of_ble_eq_true rfl) rfl (kr_X (kr_V fun w2 hw2 => ?_)) (kx_X fun E2 w2 hx2 => ?_)
    · obtain ⟨rfl, hp2⟩ := hw2
      obtain ⟨b2, hb2, rfl⟩ := hp2
      refine J_aload_n (pc := 9) dX6_ring_9 rfl rfl rfl ?_
      refine J_iload_n (pc := 10) dX6_ring_10 rfl rfl ?_
      refine J_callV (pc := 11) (as := [.int p2]) dX6_ring_11 fw_X6_needPoint fl_X6_86 fm_X6_needPoint fe_X6_needPoint hc3 (by decide) rfl rfl rfl (c_X6_needPoint hs (d := d - 1) (by omega) (e := e) (r := r) (q := q) hn1 hn2 hS (w := w) p2 (kc := 1) (ks := 6) (Nat.le_refl _) (Nat.le_refl _)) (by omega) (by omega) (by omega) (st := []) (Nat.le_of_ble_eq_true rfl) rfl (kr_X (kr_V fun w4 hw4 => ?_)) (kx_X fun E4 w4 hx4 => ?_)
      · obtain ⟨rfl, hp4⟩ := hw4
        obtain ⟨b4, hb4, rfl⟩ := hp4
        refine J_aload_n (pc := 14) dX6_ring_14 rfl rfl rfl ?_
        refine J_iload (pc := 15) dX6_ring_15 rfl ?_
        refine J_callV (pc := 17) (as := [.int p3]) dX6_ring_17 fw_X6_needPoint fl_X6_86 fm_X6_needPoint fe_X6_needPoint hc3 (by decide) rfl rfl rfl (c_X6_needPoint hs (d := d - 1) (by omega) (e := e) (r := r) (q := q) hn1 hn2 hS (w := w) p3 (kc := 1) (ks := 6) (Nat.le_refl _) (Nat.le_refl _)) (by omega) (by omega) (by omega) (st := []) (Nat.le_of_ble_eq_true rfl) rfl (kr_X (kr_V fun w5 hw5 => ?_)) (kx_X fun E5 w5 hx5 => ?_)
        · obtain ⟨rfl, hp5⟩ := hw5
          obtain ⟨b5, hb5, rfl⟩ := hp5
          refine J_iload_n (pc := 20) dX6_ring_20 rfl rfl ?_
          refine J_iload_n (pc := 21) dX6_ring_21 rfl rfl ?_
          refine J_icmp_eqN (pc := 22) (tgt := 41) dX6_ring_22 (by decide) (by omega) (by omega) (fun ht6 => ?_) (fun hf7 => ?_)
          · refine J_iconst (pc := 41) (v := nI 0) dX6_ring_41 (by decide) ?_
            refine J_callS (pc := 42) (as := [.int (nI 0)]) dX6_ring_42 fw_X6_need fl_X6_99 fs_X6_need rfl (c_X6_need hs (d := d - 1) (by omega) (w := w) 0 (by omega) (kc := 1) (ks := 6) (Nat.le_refl _) (Nat.le_refl _)) (by omega) (by omega) (by omega) (st := []) (Nat.le_of_ble_eq_true rfl) rfl (kr_X (kr_V fun w8 hw8 => ?_)) (kx_X fun E8 w8 hx8 => ?_)
            · exact absurd rfl hw8.2
            · exact JX_out (fun _ h => nomatch h) (by obtain ⟨h1, h2⟩ := hx8; exact ⟨Or.inr h1, by subst h2; exact ⟨_, _, hS.push, hG.tr Fr.push⟩⟩)
          · refine J_iload_n (pc := 25) dX6_ring_25 rfl rfl ?_
            refine J_iload (pc := 26) dX6_ring_26 rfl ?_
            refine J_icmp_eqN (pc := 28) (tgt := 41) dX6_ring_28 (by decide) (by omega) (by omega) (fun ht9 => ?_) (fun hf10 => ?_)
            · refine J_iconst (pc := 41) (v := nI 0) dX6_ring_41 (by decide) ?_
              refine J_callS (pc := 42) (as := [.int (nI 0)]) dX6_ring_42 fw_X6_need fl_X6_99 fs_X6_need rfl (c_X6_need hs (d := d - 1) (by omega) (w := w) 0 (by omega) (kc := 1) (ks := 6) (Nat.le_refl _) (Nat.le_refl _)) (by omega) (by omega) (by omega) (st := []) (Nat.le_of_ble_eq_true rfl) rfl (kr_X (kr_V fun w11 hw11 => ?_)) (kx_X fun E11 w11 hx11 => ?_)
              · exact absurd rfl hw11.2
              · exact JX_out (fun _ h => nomatch h) (by obtain ⟨h1, h2⟩ := hx11; exact ⟨Or.inr h1, by subst h2; exact ⟨_, _, hS.push, hG.tr Fr.push⟩⟩)
            · refine J_iload (pc := 31) dX6_ring_31 rfl ?_
              refine J_iload_n (pc := 33) dX6_ring_33 rfl rfl ?_
              refine J_icmp_eqN (pc := 34) (tgt := 41) dX6_ring_34 (by decide) (by omega) (by omega) (fun ht12 => ?_) (fun hf13 => ?_)
              · refine J_iconst (pc := 41) (v := nI 0) dX6_ring_41 (by decide) ?_
                refine J_callS (pc := 42) (as := [.int (nI 0)]) dX6_ring_42 fw_X6_need fl_X6_99 fs_X6_need rfl (c_X6_need hs (d := d - 1) (by omega) (w := w) 0 (by omega) (kc := 1) (ks := 6) (Nat.le_refl _) (Nat.le_refl _)) (by omega) (by omega) (by omega) (st := []) (Nat.le_of_ble_eq_true rfl) rfl (kr_X (kr_V fun w14 hw14 => ?_)) (kx_X fun E14 w14 hx14 => ?_)
                · exact absurd rfl hw14.2
                · exact JX_out (fun _ h => nomatch h) (by obtain ⟨h1, h2⟩ := hx14; exact ⟨Or.inr h1, by subst h2; exact ⟨_, _, hS.push, hG.tr Fr.push⟩⟩)
              · refine J_iconst (pc := 37) (v := nI 1) dX6_ring_37 (by decide) ?_
                refine J_goto (pc := 38) (tgt := 42) dX6_ring_38 (by decide) ?_
                refine J_callS (pc := 42) (as := [.int (nI 1)]) dX6_ring_42 fw_X6_need fl_X6_99 fs_X6_need rfl (c_X6_need hs (d := d - 1) (by omega) (w := w) 1 (by omega) (kc := 1) (ks := 6) (Nat.le_refl _) (Nat.le_refl _)) (by omega) (by omega) (by omega) (st := []) (Nat.le_of_ble_eq_true rfl) rfl (kr_X (kr_V fun w15 hw15 => ?_)) (kx_X fun E15 w15 hx15 => ?_)
                · obtain ⟨rfl, hp15⟩ := hw15
                  refine J_ldc (pc := 45) (v := nI 1754760) dX6_ring_45 (by have := fk_X6_56; exact this) ?_
                  refine J_iload_n (pc := 47) dX6_ring_47 rfl rfl ?_
                  refine J_iload_n (pc := 48) dX6_ring_48 rfl rfl ?_
                  refine J_callS0 (pc := 49) (as := [.int (nI 1754760), .int (nI b2), .int (nI b4)]) dX6_ring_49 fw_X2_with fl_X6_89 fs_X2_with rfl (c_X2_with hs (d := d - 1) (by omega) (w := w) (nI 1754760) (nI b2) (nI b4) (kc := 0) (ks := 0)) (by omega) (st := []) (Nat.le_of_ble_eq_true rfl) rfl (kr_P fun v16 hv16 => ?_) kx_I
                  refine J_iload_n (pc := 52) dX6_ring_52 rfl rfl ?_
                  refine J_iload (pc := 53) dX6_ring_53 rfl ?_
                  refine J_callS0 (pc := 55) (as := [.int v16, .int (nI b4), .int (nI b5)]) dX6_ring_55 fw_X2_with fl_X6_89 fs_X2_with rfl (c_X2_with hs (d := d - 1) (by omega) (w := w) v16 (nI b4) (nI b5) (kc := 0) (ks := 0)) (by omega) (st := []) (Nat.le_of_ble_eq_true rfl) rfl (kr_P fun v17 hv17 => ?_) kx_I
                  refine J_iload (pc := 58) dX6_ring_58 rfl ?_
                  refine J_iload_n (pc := 60) dX6_ring_60 rfl rfl ?_
                  refine J_callS0 (pc := 61) (as := [.int v17, .int (nI b5), .int (nI b2)]) dX6_ring_61 fw_X2_with fl_X6_89 fs_X2_with rfl (c_X2_with hs (d := d - 1) (by omega) (w := w) v17 (nI b5) (nI b2) (kc := 0) (ks := 0)) (by omega) (st := []) (Nat.le_of_ble_eq_true rfl) rfl (kr_P fun v18 hv18 => ?_) kx_I
                  refine J_istore (pc := 64) dX6_ring_64 (by decide) rfl ?_
                  show J X mX6_ring d (kc - 1 - 1 - 1 - 1 - 1) (ks - 6 - 6 - 6 - 6 - 6) 66 [some (.ref 0), some (.int (nI b1)), some (.int (nI b2)), some (.int (nI b4)), some (.int (nI b5)), some (.int v18)] [] w _
                  refine J_aload_n (pc := 66) dX6_ring_66 rfl rfl rfl ?_
                  refine J_iload_n (pc := 67) dX6_ring_67 rfl rfl ?_
                  refine J_aload_n (pc := 68) dX6_ring_68 rfl rfl rfl ?_
                  refine J_get (pc := 69) (k := 0) dX6_ring_69 kC7 (by decide) ff_X6_9 hc3 rfl ?_
                  refine J_iload_n (pc := 72) dX6_ring_72 rfl rfl ?_
                  obtain ⟨_, hc19, xs19, rfl, hl19⟩ := hS 1 _ rfl
                  refine J_iald (pc := 73) dX6_ring_73 hc19 (nI_in (by omega) (by omega)) (J_absI fun x20 => ?_)
                  refine J_iload (pc := 74) dX6_ring_74 rfl ?_
                  refine J_callS0 (pc := 76) (as := [.int x20, .int v18]) dX6_ring_76 fw_X2_both fl_X6_93 fs_X2_both rfl (c_X2_both hs (d := d - 1) (by omega) (w := w) x20 v18 (kc := 0) (ks := 0)) (by omega) (st := [.int (nI b1), .ref 0]) (Nat.le_of_ble_eq_true rfl) rfl (kr_P fun v21 hv21 => ?_) kx_I
                  refine J_callV0 (pc := 79) (as := [.int (nI b1), .int v21]) dX6_ring_79 fw_X6_keepForSign fl_X6_96 fm_X6_keepForSign fe_X6_keepForSign hc3 (by decide) rfl rfl rfl (c_X6_keepForSign hs (d := d - 1) (by omega) (e := e) (r := r) (q := q) hn1 hn2 hS (w := w) b1 v21 (by omega) (kc := 0) (ks := 0)) (by omega) (st := []) (Nat.le_of_ble_eq_true rfl) rfl (kr_I fun v22 w22 hv22 hw22 => ?_) kx_I
                  obtain ⟨e22, r22, hS22, hF22⟩ := hw22
                  have hG22 := hG.tr hF22
                  exact J_iret (pc := 82) dX6_ring_82 rfl ⟨trivial, ⟨_, _, hS22, hG22⟩⟩
                · exact JX_out (fun _ h => nomatch h) (by obtain ⟨h1, h2⟩ := hx15; exact ⟨Or.inr h1, by subst h2; exact ⟨_, _, hS.push, hG.tr Fr.push⟩⟩)
        · exact JX_out (fun _ h => nomatch h) (by obtain ⟨h1, h2⟩ := hx5; exact ⟨Or.inl h1, by subst h2; exact ⟨_, _, hS.push, hG.tr Fr.push⟩⟩)
      · exact JX_out (fun _ h => nomatch h) (by obtain ⟨h1, h2⟩ := hx4; exact ⟨Or.inl h1, by subst h2; exact ⟨_, _, hS.push, hG.tr Fr.push⟩⟩)
    · exact JX_out (fun _ h => nomatch h) (by obtain ⟨h1, h2⟩ := hx2; exact ⟨Or.inl h1, by subst h2; exact ⟨_, _, hS.push, hG.tr Fr.push⟩⟩)
  · exact JX_out (fun _ h => nomatch h) (by obtain ⟨h1, h2⟩ := hx1; exact ⟨Or.inl h1, by subst h2; exact ⟨_, _, hS.push, hG.tr Fr.push⟩⟩)
