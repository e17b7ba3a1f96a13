/-! contracts of the class -/
set_option maxRecDepth 100000 in
set_option maxHeartbeats 4000000 in
theorem c_X6_needCell {X : jX} (hs : X.1.stackTraces = false) {d : Nat} (hd : 11 ≤ d) {w : List jC} (a : Int32) {kc ks : Nat} (hkc : 1 ≤ kc) (hks : 6 ≤ ks) : jMet X mX6_needCell d kc ks [.int a] w (pX (pV (fun w' => w' = w ∧ ∃ b : Nat, b < 6 ∧ a = nI b)) (fun E w' => (E = "java/lang/IndexOutOfBoundsException") ∧ w' = w ++ [.inr (99, [])])) := by
  refine jMet_of hs (by decide +kernel) (Nat.le_of_ble_eq_true rfl) (L := [some (.int a)]) rfl ?_
  refine J_iload_n (pc := 0) dX6_needCell_0 rfl rfl ?_
  refine J_if_lt (pc := 1) (tgt := 10) dX6_needCell_1 (by decide) (fun ht1 => ?_) (fun hf2 => ?_)
  · exact J_throw (pc := 10) (M := mX6_needCell) (names := exN) (sa := 7) (text := "there is no such cell") (cls := "java/lang/IndexOutOfBoundsException") rfl exN_fit fc_X6_287 fz_IndexOutOfBoundsException js_7 ta_IndexOutOfBoundsException tg_IndexOutOfBoundsException dX6_needCell_10 dX6_needCell_13 dX6_needCell_14 dX6_needCell_17 dX6_needCell_20 rfl (by show 2 + 9 ≤ d; omega) (Nat.le_of_ble_eq_true rfl) hkc hks ⟨rfl, rfl⟩
  · refine J_iload_n (pc := 4) dX6_needCell_4 rfl rfl ?_
    refine J_bipush (pc := 5) (v := nI 6) dX6_needCell_5 (by decide) ?_
    refine J_icmp_lt (pc := 7) (tgt := 21) dX6_needCell_7 (by decide) (fun ht3 => ?_) (fun hf4 => ?_)
    · obtain ⟨k5, hk5, rfl⟩ := nI_k2 ht3 (by omega) hf2
      exact J_vret (pc := 21) dX6_needCell_21 rfl (⟨rfl, ⟨_, by assumption, rfl⟩⟩)
    · exact J_throw (pc := 10) (M := mX6_needCell) (names := exN) (sa := 7) (text := "there is no such cell") (cls := "java/lang/IndexOutOfBoundsException") rfl exN_fit fc_X6_287 fz_IndexOutOfBoundsException js_7 ta_IndexOutOfBoundsException tg_IndexOutOfBoundsException dX6_needCell_10 dX6_needCell_13 dX6_needCell_14 dX6_needCell_17 dX6_needCell_20 rfl (by show 2 + 9 ≤ d; omega) (Nat.le_of_ble_eq_true rfl) hkc hks ⟨rfl, rfl⟩
set_option maxRecDepth 100000 in
set_option maxHeartbeats 4000000 in
theorem c_X6_needPoint {X : jX} (hs : X.1.stackTraces = false) {d : Nat} (hd : 11 ≤ d) {n : Nat} {e r q : Int32} (hn1 : 2 ≤ n) (hn2 : n ≤ 7) {w : List jC} (hS : SH (rX n e r q) w) (a : Int32) {kc ks : Nat} (hkc : 1 ≤ kc) (hks : 6 ≤ ks) : jMet X mX6_needPoint d kc ks [.ref 0, .int a] w (pX (pV (fun w' => w' = w ∧ ∃ b : Nat, b < n ∧ a = nI b)) (fun E w' => (E = "java/lang/IndexOutOfBoundsException") ∧ w' = w ++ [.inr (99, [])])) := by
  refine jMet_of hs (by decide +kernel) (Nat.le_of_ble_eq_true rfl) (L := [some (.ref 0), some (.int a)]) rfl ?_
  have hG : Fr kX w w := Fr.rf
  refine J_iload_n (pc := 0) dX6_needPoint_0 rfl rfl ?_
  refine J_if_lt (pc := 1) (tgt := 12) dX6_needPoint_1 (by decide) (fun ht1 => ?_) (fun hf2 => ?_)
  · exact J_throw (pc := 12) (M := mX6_needPoint) (names := exN) (sa := 8) (text := "there is no such point") (cls := "java/lang/IndexOutOfBoundsException") rfl exN_fit fc_X6_287 fz_IndexOutOfBoundsException js_8 ta_IndexOutOfBoundsException tg_IndexOutOfBoundsException dX6_needPoint_12 dX6_needPoint_15 dX6_needPoint_16 dX6_needPoint_19 dX6_needPoint_22 rfl (by show 2 + 9 ≤ d; omega) (Nat.le_of_ble_eq_true rfl) hkc hks ⟨rfl, rfl⟩
  · refine J_iload_n (pc := 4) dX6_needPoint_4 rfl rfl ?_
    refine J_aload_n (pc := 5) dX6_needPoint_5 rfl rfl rfl ?_
    obtain ⟨_, hc3, rfl⟩ := hS 0 _ rfl
    refine J_get (pc := 6) (k := 5) dX6_needPoint_6 kC7 (by decide) ff_X6_41 hc3 rfl ?_
    refine J_icmp_lt (pc := 9) (tgt := 23) dX6_needPoint_9 (by decide) (fun ht4 => ?_) (fun hf5 => ?_)
    · obtain ⟨k6, hk6, rfl⟩ := nI_k2 ht4 (by omega) hf2
      exact J_vret (pc := 23) dX6_needPoint_23 rfl (⟨rfl, ⟨_, by assumption, rfl⟩⟩)
    · exact J_throw (pc := 12) (M := mX6_needPoint) (names := exN) (sa := 8) (text := "there is no such point") (cls := "java/lang/IndexOutOfBoundsException") rfl exN_fit fc_X6_287 fz_IndexOutOfBoundsException js_8 ta_IndexOutOfBoundsException tg_IndexOutOfBoundsException dX6_needPoint_12 dX6_needPoint_15 dX6_needPoint_16 dX6_needPoint_19 dX6_needPoint_22 rfl (by show 2 + 9 ≤ d; omega) (Nat.le_of_ble_eq_true rfl) hkc hks ⟨rfl, rfl⟩
set_option maxRecDepth 100000 in
set_option maxHeartbeats 4000000 in
theorem c_X6_need {X : jX} (hs : X.1.stackTraces = false) {d : Nat} (hd : 11 ≤ d) {w : List jC} (a : Nat) (hy0 : a < 2) {kc ks : Nat} (hkc : 1 ≤ kc) (hks : 6 ≤ ks) : jMet X mX6_need d kc ks [.int (nI a)] w (pX (pV (fun w' => w' = w ∧ ¬ a = 0)) (fun E w' => (E = "java/lang/IllegalArgumentException") ∧ w' = w ++ [.inr (99, [])])) := by
  refine jMet_of hs (by decide +kernel) (Nat.le_of_ble_eq_true rfl) (L := [some (.int (nI a))]) rfl ?_
  refine J_iload_n (pc := 0) dX6_need_0 rfl rfl ?_
  refine J_if_neN (pc := 1) (tgt := 15) dX6_need_1 (by decide) (by omega) (fun ht1 => ?_) (fun hf2 => ?_)
  · exact J_vret (pc := 15) dX6_need_15 rfl (⟨rfl, by assumption⟩)
  · exact J_throw (pc := 4) (M := mX6_need) (names := exN) (sa := 9) (text := "an argument is outside what the document lets") (cls := "java/lang/IllegalArgumentException") rfl exN_fit fc_X6_296 fz_IllegalArgumentException js_9 ta_IllegalArgumentException tg_IllegalArgumentException dX6_need_4 dX6_need_7 dX6_need_8 dX6_need_11 dX6_need_14 rfl (by show 2 + 9 ≤ d; omega) (Nat.le_of_ble_eq_true rfl) hkc hks ⟨rfl, rfl⟩
set_option maxRecDepth 100000 in
set_option maxHeartbeats 4000000 in
theorem c_X6_needBetween {X : jX} (hs : X.1.stackTraces = false) {d : Nat} (hd : 12 ≤ d) {w : List jC} (a : Int32) (b : Int32) (c : Int32) {kc ks : Nat} (hkc : 1 ≤ kc) (hks : 6 ≤ ks) : jMet X mX6_needBetween d kc ks [.int a, .int b, .int c] w (pX (pV (fun w' => w' = w ∧ b ≤ a ∧ a ≤ c)) (fun E w' => (E = "java/lang/IllegalArgumentException") ∧ w' = w ++ [.inr (99, [])])) := by
  refine jMet_of hs (by decide +kernel) (Nat.le_of_ble_eq_true rfl) (L := [some (.int a), some (.int b), some (.int c)]) rfl ?_
  refine J_iload_n (pc := 0) dX6_needBetween_0 rfl rfl ?_
  refine J_iload_n (pc := 1) dX6_needBetween_1 rfl rfl ?_
  refine J_icmp_lt (pc := 2) (tgt := 14) dX6_needBetween_2 (by decide) (fun ht1 => ?_) (fun hf2 => ?_)
  · refine J_iconst (pc := 14) (v := nI 0) dX6_needBetween_14 (by decide) ?_
    refine J_callS (pc := 15) (M := mX6_needBetween) (as := [.int (nI 0)]) dX6_needBetween_15 fw_X6_need fl_X6_99 fs_X6_need rfl (c_X6_need hs (d := d - 1) (by omega) (w := w) 0 (by omega) (kc := 1) (ks := 6) (Nat.le_refl _) (Nat.le_refl _)) (by omega) (by omega) (by omega) (st := []) (Nat.le_of_ble_eq_true rfl) rfl (kr_X (kr_V fun w3 hw3 => ?_)) (kx_X fun E3 w3 hx3 => ?_)
    · exact absurd rfl hw3.2
    · exact JX_out (fun _ h => nomatch h) (by obtain ⟨h1, h2⟩ := hx3; exact ⟨h1, h2⟩)
  · refine J_iload_n (pc := 5) dX6_needBetween_5 rfl rfl ?_
    refine J_iload_n (pc := 6) dX6_needBetween_6 rfl rfl ?_
    refine J_icmp_gt (pc := 7) (tgt := 14) dX6_needBetween_7 (by decide) (fun ht4 => ?_) (fun hf5 => ?_)
    · refine J_iconst (pc := 14) (v := nI 0) dX6_needBetween_14 (by decide) ?_
      refine J_callS (pc := 15) (M := mX6_needBetween) (as := [.int (nI 0)]) dX6_needBetween_15 fw_X6_need fl_X6_99 fs_X6_need rfl (c_X6_need hs (d := d - 1) (by omega) (w := w) 0 (by omega) (kc := 1) (ks := 6) (Nat.le_refl _) (Nat.le_refl _)) (by omega) (by omega) (by omega) (st := []) (Nat.le_of_ble_eq_true rfl) rfl (kr_X (kr_V fun w6 hw6 => ?_)) (kx_X fun E6 w6 hx6 => ?_)
      · exact absurd rfl hw6.2
      · exact JX_out (fun _ h => nomatch h) (by obtain ⟨h1, h2⟩ := hx6; exact ⟨h1, h2⟩)
    · refine J_iconst (pc := 10) (v := nI 1) dX6_needBetween_10 (by decide) ?_
      refine J_goto (pc := 11) (tgt := 15) dX6_needBetween_11 (by decide) ?_
      refine J_callS (pc := 15) (M := mX6_needBetween) (as := [.int (nI 1)]) dX6_needBetween_15 fw_X6_need fl_X6_99 fs_X6_need rfl (c_X6_need hs (d := d - 1) (by omega) (w := w) 1 (by omega) (kc := 1) (ks := 6) (Nat.le_refl _) (Nat.le_refl _)) (by omega) (by omega) (by omega) (st := []) (Nat.le_of_ble_eq_true rfl) rfl (kr_X (kr_V fun w7 hw7 => ?_)) (kx_X fun E7 w7 hx7 => ?_)
      · obtain ⟨hq7, hp7⟩ := hw7
        obtain rfl := hq7.symm
        exact J_vret (pc := 18) dX6_needBetween_18 rfl (⟨rfl, ⟨Int32.not_lt.mp (by assumption), Int32.not_lt.mp (by assumption)⟩⟩)
      · exact JX_out (fun _ h => nomatch h) (by obtain ⟨h1, h2⟩ := hx7; exact ⟨h1, h2⟩)
set_option maxRecDepth 100000 in
set_option maxHeartbeats 4000000 in
theorem c_X6_needSet {X : jX} (hs : X.1.stackTraces = false) {d : Nat} (hd : 13 ≤ d) {w : List jC} (a : Int32) {kc ks : Nat} (hkc : 1 ≤ kc) (hks : 6 ≤ ks) : jMet X mX6_needSet d kc ks [.int a] w (pX (pV (fun w' => w' = w)) (fun E w' => (E = "java/lang/IllegalArgumentException") ∧ w' = w ++ [.inr (99, [])])) := by
  refine jMet_of hs (by decide +kernel) (Nat.le_of_ble_eq_true rfl) (L := [some (.int a)]) rfl ?_
  refine J_iload_n (pc := 0) dX6_needSet_0 rfl rfl ?_
  refine J_iconst (pc := 1) (v := nI 0) dX6_needSet_1 (by decide) ?_
  refine J_bipush (pc := 2) (v := nI 63) dX6_needSet_2 (by decide) ?_
  refine J_callS (pc := 4) (M := mX6_needSet) (as := [.int a, .int (nI 0), .int (nI 63)]) dX6_needSet_4 fw_X6_needBetween fl_X6_63 fs_X6_needBetween rfl (c_X6_needBetween hs (d := d - 1) (by omega) (w := w) a (nI 0) (nI 63) (kc := 1) (ks := 6) (Nat.le_refl _) (Nat.le_refl _)) (by omega) (by omega) (by omega) (st := []) (Nat.le_of_ble_eq_true rfl) rfl (kr_X (kr_V fun w1 hw1 => ?_)) (kx_X fun E1 w1 hx1 => ?_)
  · obtain ⟨hq1, hpa1, hpb1⟩ := hw1
    obtain rfl := hq1.symm
    obtain ⟨b1, hb1, hc1, rfl⟩ := nI_btw hpa1 hpb1 (by omega) (by omega)
    exact J_vret (pc := 7) dX6_needSet_7 rfl (rfl)
  · exact JX_out (fun _ h => nomatch h) (by obtain ⟨h1, h2⟩ := hx1; exact ⟨h1, h2⟩)
set_option maxRecDepth 100000 in
set_option maxHeartbeats 4000000 in
theorem c_X6_keep {X : jX} (hs : X.1.stackTraces = false) {d : Nat} (hd : 0 ≤ d) {n : Nat} {e r q : Int32} (hn1 : 2 ≤ n) (hn2 : n ≤ 7) {w : List jC} (hS : SH (rX n e r q) w) (a : Nat) (b : Int32) (hy0 : a < 6) {kc ks : Nat} : jMet X mX6_keep d kc ks [.ref 0, .int (nI a), .int b] w (pV (fun w' => rT n q w w')) := by
  refine jMet_of hs (by decide +kernel) (Nat.le_of_ble_eq_true rfl) (L := [some (.ref 0), some (.int (nI a)), some (.int b)]) rfl ?_
  have hG : Fr kX w w := Fr.rf
  refine J_aload_n (pc := 0) dX6_keep_0 rfl rfl rfl ?_
  obtain ⟨_, hc1, rfl⟩ := hS 0 _ rfl
  refine J_get (pc := 1) (k := 0) dX6_keep_1 kC7 (by decide) ff_X6_9 hc1 rfl ?_
  refine J_iload_n (pc := 4) dX6_keep_4 rfl rfl ?_
  refine J_iload_n (pc := 5) dX6_keep_5 rfl rfl ?_
  obtain ⟨_, hc2, xs2, rfl, hl2⟩ := hS 1 _ rfl
  refine J_iastS (pc := 6) kX dX6_keep_6 hS hc2 (nI_in (by omega) (by omega)) rfl ⟨_, rfl, by rw [List.length_set]; exact hl2⟩ (by decide) (fun w3 hS3 hc3 hne3 hF3 => ?_)
  have hG3 := hG.tr hF3
  have hl3 : (List.set xs2 (nI a).toNatClampNeg b).length = 6 := by rw [List.length_set]; exact hl2
  generalize List.set xs2 (nI a).toNatClampNeg b = xs3 at hc3 hl3
  have hc1_v3 := (hne3 0 (by decide)).trans hc1
  refine J_aload_n (pc := 7) dX6_keep_7 rfl rfl rfl ?_
  refine J_dup (pc := 8) dX6_keep_8 rfl ?_
  refine J_get (pc := 9) (k := 6) dX6_keep_9 kC7 (by decide) ff_X6_45 hc1_v3 rfl ?_
  refine J_iconst (pc := 12) (v := nI 1) dX6_keep_12 (by decide) ?_
  refine J_iadd (pc := 13) dX6_keep_13 (J_absI fun x4 => ?_)
  refine J_put0 (pc := 14) (n' := n) (e' := x4) (r' := r) (q' := q) (k := 6) dX6_keep_14 kC7 (by decide) ff_X6_45 (Or.inl rfl) ⟨rfl, rfl⟩ hS3 (by decide) rfl (fun w5 hS5 hne5 hF5 => ?_)
  have hG5 := hG3.tr hF5
  have hc3_v5 := (hne5 1 (by decide)).trans hc3
  exact J_vret (pc := 17) dX6_keep_17 rfl (⟨_, _, hS5, hG5⟩)
set_option maxRecDepth 100000 in
set_option maxHeartbeats 4000000 in
theorem c_X6_keepForSign {X : jX} (hs : X.1.stackTraces = false) {d : Nat} (hd : 4 ≤ d) {n : Nat} {e r q : Int32} (hn1 : 2 ≤ n) (hn2 : n ≤ 7) {w : List jC} (hS : SH (rX n e r q) w) (a : Nat) (b : Int32) (hy0 : a < 6) {kc ks : Nat} : jMet X mX6_keepForSign d kc ks [.ref 0, .int (nI a), .int b] w (pI (fun _ => True) (fun w' => rT n q w w')) := by
  refine jMet_of hs (by decide +kernel) (Nat.le_of_ble_eq_true rfl) (L := [some (.ref 0), some (.int (nI a)), some (.int b)]) rfl ?_
  have hG : Fr kX w w := Fr.rf
  refine J_aload_n (pc := 0) dX6_keepForSign_0 rfl rfl rfl ?_
  refine J_iload_n (pc := 1) dX6_keepForSign_1 rfl rfl ?_
  refine J_iload_n (pc := 2) dX6_keepForSign_2 rfl rfl ?_
  obtain ⟨_, hc2, rfl⟩ := hS 0 _ rfl
  refine J_callV0 (pc := 3) (M := mX6_keepForSign) (as := [.int (nI a), .int b]) dX6_keepForSign_3 fw_X6_keep fl_X6_82 fm_X6_keep fe_X6_keep hc2 (by decide) rfl rfl rfl (c_X6_keep hs (d := d - 1) (by omega) (e := e) (r := r) (q := q) hn1 hn2 hS (w := w) a b (by omega) (kc := 0) (ks := 0)) (by omega) (st := []) (Nat.le_of_ble_eq_true rfl) rfl (kr_V fun w1 hw1 => ?_) kx_V
  obtain ⟨e1, r1, hS1, hF1⟩ := hw1
  have hG1 := hG.tr hF1
  refine J_iload_n (pc := 6) dX6_keepForSign_6 rfl rfl ?_
  refine J_aload_n (pc := 7) dX6_keepForSign_7 rfl rfl rfl ?_
  obtain ⟨_, hc3, rfl⟩ := hS1 0 _ rfl
  refine J_get (pc := 8) (k := 5) dX6_keepForSign_8 kC7 (by decide) ff_X6_41 hc3 rfl ?_
  refine J_callS0 (pc := 11) (M := mX6_keepForSign) (as := [.int b, .int (nI n)]) dX6_keepForSign_11 fw_X2_signOf fl_X6_167 fs_X2_signOf rfl (c_X2_signOf hs (d := d - 1) (by omega) (w := w1) b n (by omega) (kc := 0) (ks := 0)) (by omega) (st := []) (Nat.le_of_ble_eq_true rfl) rfl (kr_P fun v4 hv4 => ?_) kx_I
  exact J_iret (pc := 14) dX6_keepForSign_14 rfl ⟨trivial, ⟨_, _, hS1, hG1⟩⟩
set_option maxRecDepth 100000 in
set_option maxHeartbeats 4000000 in
theorem c_X6_keepForNumber {X : jX} (hs : X.1.stackTraces = false) {d : Nat} (hd : 3 ≤ d) {n : Nat} {e r q : Int32} (hn1 : 2 ≤ n) (hn2 : n ≤ 7) {w : List jC} (hS : SH (rX n e r q) w) (a : Nat) (b : Int32) (hy0 : a < 6) {kc ks : Nat} : jMet X mX6_keepForNumber d kc ks [.ref 0, .int (nI a), .int b] w (pI (fun _ => True) (fun w' => rT n q w w')) := by
  refine jMet_of hs (by decide +kernel) (Nat.le_of_ble_eq_true rfl) (L := [some (.ref 0), some (.int (nI a)), some (.int b)]) rfl ?_
  have hG : Fr kX w w := Fr.rf
  refine J_aload_n (pc := 0) dX6_keepForNumber_0 rfl rfl rfl ?_
  refine J_iload_n (pc := 1) dX6_keepForNumber_1 rfl rfl ?_
  refine J_iload_n (pc := 2) dX6_keepForNumber_2 rfl rfl ?_
  obtain ⟨_, hc2, rfl⟩ := hS 0 _ rfl
  refine J_callV0 (pc := 3) (M := mX6_keepForNumber) (as := [.int (nI a), .int b]) dX6_keepForNumber_3 fw_X6_keep fl_X6_82 fm_X6_keep fe_X6_keep hc2 (by decide) rfl rfl rfl (c_X6_keep hs (d := d - 1) (by omega) (e := e) (r := r) (q := q) hn1 hn2 hS (w := w) a b (by omega) (kc := 0) (ks := 0)) (by omega) (st := []) (Nat.le_of_ble_eq_true rfl) rfl (kr_V fun w1 hw1 => ?_) kx_V
  obtain ⟨e1, r1, hS1, hF1⟩ := hw1
  have hG1 := hG.tr hF1
  refine J_iload_n (pc := 6) dX6_keepForNumber_6 rfl rfl ?_
  refine J_aload_n (pc := 7) dX6_keepForNumber_7 rfl rfl rfl ?_
  obtain ⟨_, hc3, rfl⟩ := hS1 0 _ rfl
  refine J_get (pc := 8) (k := 5) dX6_keepForNumber_8 kC7 (by decide) ff_X6_41 hc3 rfl ?_
  refine J_callS0 (pc := 11) (M := mX6_keepForNumber) (as := [.int b, .int (nI n)]) dX6_keepForNumber_11 fw_X2_numberOf fl_X6_75 fs_X2_numberOf rfl (c_X2_numberOf hs (d := d - 1) (by omega) (w := w1) b n (by omega) (kc := 0) (ks := 0)) (by omega) (st := []) (Nat.le_of_ble_eq_true rfl) rfl (kr_P fun v4 hv4 => ?_) kx_I
  exact J_iret (pc := 14) dX6_keepForNumber_14 rfl ⟨trivial, ⟨_, _, hS1, hG1⟩⟩
