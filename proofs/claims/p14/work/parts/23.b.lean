/-! what is thrown tells why: the house's tests of arguments -/
theorem no_lt {a : Int32} {k : Nat} (hk : k ≤ 5040) (h : a < 0) : ∀ b, b < k → a ≠ nI b := fun b hb e => by
  rw [e] at h
  exact nI_pos (show b < 2 ^ 31 by omega) h
theorem no_ge {a : Int32} {k : Nat} (hk : k ≤ 5040) (h : ¬ a < nI k) : ∀ b, b < k → a ≠ nI b := fun b hb e => by
  rw [e] at h
  exact h (nI_lt hb (by omega))
set_option maxRecDepth 100000 in
set_option maxHeartbeats 4000000 in
theorem c_X6_needCell_att {X : jX} (hs : X.1.stackTraces = false) {d : Nat} (hd : 11 ≤ d) {w : List jC} (a : Int32) {kc ks : Nat} (hkc : 1 ≤ kc) (hks : 6 ≤ ks) : jMet X mX6_needCell d kc ks [.int a] w (pX (pV (fun w' => w' = w ∧ ∃ b : Nat, b < 6 ∧ a = nI b)) (fun E w' => (E = "java/lang/IndexOutOfBoundsException") ∧ w' = w ++ [.inr (99, [])] ∧ ∀ b : Nat, b < 6 → a ≠ nI b)) := by
  refine jMet_of hs (by decide +kernel) (Nat.le_of_ble_eq_true rfl) (L := [some (.int a)]) rfl ?_
  refine J_iload_n (pc := 0) dX6_needCell_0 rfl rfl ?_
  refine J_if_lt (pc := 1) (tgt := 10) dX6_needCell_1 (by decide) (fun ht1 => ?_) (fun hf2 => ?_)
  · exact J_throw (pc := 10) (M := mX6_needCell) (names := exN) (sa := 7) (text := "there is no such cell") (cls := "java/lang/IndexOutOfBoundsException") rfl exN_fit fc_X6_287 fz_IndexOutOfBoundsException js_7 ta_IndexOutOfBoundsException tg_IndexOutOfBoundsException dX6_needCell_10 dX6_needCell_13 dX6_needCell_14 dX6_needCell_17 dX6_needCell_20 rfl (by show 2 + 9 ≤ d; omega) (Nat.le_of_ble_eq_true rfl) hkc hks ⟨rfl, rfl, by first | exact no_lt (by decide) (by assumption) | exact no_ge (by decide) (by assumption)⟩
  · refine J_iload_n (pc := 4) dX6_needCell_4 rfl rfl ?_
    refine J_bipush (pc := 5) (v := nI 6) dX6_needCell_5 (by decide) ?_
    refine J_icmp_lt (pc := 7) (tgt := 21) dX6_needCell_7 (by decide) (fun ht3 => ?_) (fun hf4 => ?_)
    · obtain ⟨k5, hk5, rfl⟩ := nI_k2 ht3 (by omega) hf2
      exact J_vret (pc := 21) dX6_needCell_21 rfl (⟨rfl, ⟨_, by assumption, rfl⟩⟩)
    · exact J_throw (pc := 10) (M := mX6_needCell) (names := exN) (sa := 7) (text := "there is no such cell") (cls := "java/lang/IndexOutOfBoundsException") rfl exN_fit fc_X6_287 fz_IndexOutOfBoundsException js_7 ta_IndexOutOfBoundsException tg_IndexOutOfBoundsException dX6_needCell_10 dX6_needCell_13 dX6_needCell_14 dX6_needCell_17 dX6_needCell_20 rfl (by show 2 + 9 ≤ d; omega) (Nat.le_of_ble_eq_true rfl) hkc hks ⟨rfl, rfl, by first | exact no_lt (by decide) (by assumption) | exact no_ge (by decide) (by assumption)⟩
set_option maxRecDepth 100000 in
set_option maxHeartbeats 4000000 in
theorem c_X6_needPoint_att {X : jX} (hs : X.1.stackTraces = false) {d : Nat} (hd : 11 ≤ d) {n : Nat} {e r q : Int32} (hn1 : 2 ≤ n) (hn2 : n ≤ 7) {w : List jC} (hX0 : w[0]? = some (.inr (7, [.ref 1, .ref 2, .ref 8, .ref 12, .ref 14, .int (nI n), .int e, .int r, .int q]))) (a : Int32) {kc ks : Nat} (hkc : 1 ≤ kc) (hks : 6 ≤ ks) : jMet X mX6_needPoint d kc ks [.ref 0, .int a] w (pX (pV (fun w' => w' = w ∧ ∃ b : Nat, b < n ∧ a = nI b)) (fun E w' => (E = "java/lang/IndexOutOfBoundsException") ∧ w' = w ++ [.inr (99, [])] ∧ ∀ b : Nat, b < n → a ≠ nI b)) := by
  refine jMet_of hs (by decide +kernel) (Nat.le_of_ble_eq_true rfl) (L := [some (.ref 0), some (.int a)]) rfl ?_
  refine J_iload_n (pc := 0) dX6_needPoint_0 rfl rfl ?_
  refine J_if_lt (pc := 1) (tgt := 12) dX6_needPoint_1 (by decide) (fun ht1 => ?_) (fun hf2 => ?_)
  · exact J_throw (pc := 12) (M := mX6_needPoint) (names := exN) (sa := 8) (text := "there is no such point") (cls := "java/lang/IndexOutOfBoundsException") rfl exN_fit fc_X6_287 fz_IndexOutOfBoundsException js_8 ta_IndexOutOfBoundsException tg_IndexOutOfBoundsException dX6_needPoint_12 dX6_needPoint_15 dX6_needPoint_16 dX6_needPoint_19 dX6_needPoint_22 rfl (by show 2 + 9 ≤ d; omega) (Nat.le_of_ble_eq_true rfl) hkc hks ⟨rfl, rfl, by first | exact no_lt (by omega) (by assumption) | exact no_ge (by omega) (by assumption)⟩
  · refine J_iload_n (pc := 4) dX6_needPoint_4 rfl rfl ?_
    refine J_aload_n (pc := 5) dX6_needPoint_5 rfl rfl rfl ?_
    refine J_get (pc := 6) (k := 5) dX6_needPoint_6 kC7 (by decide) ff_X6_41 hX0 rfl ?_
    refine J_icmp_lt (pc := 9) (tgt := 23) dX6_needPoint_9 (by decide) (fun ht4 => ?_) (fun hf5 => ?_)
    · obtain ⟨k6, hk6, rfl⟩ := nI_k2 ht4 (by omega) hf2
      exact J_vret (pc := 23) dX6_needPoint_23 rfl (⟨rfl, ⟨_, by assumption, rfl⟩⟩)
    · exact J_throw (pc := 12) (M := mX6_needPoint) (names := exN) (sa := 8) (text := "there is no such point") (cls := "java/lang/IndexOutOfBoundsException") rfl exN_fit fc_X6_287 fz_IndexOutOfBoundsException js_8 ta_IndexOutOfBoundsException tg_IndexOutOfBoundsException dX6_needPoint_12 dX6_needPoint_15 dX6_needPoint_16 dX6_needPoint_19 dX6_needPoint_22 rfl (by show 2 + 9 ≤ d; omega) (Nat.le_of_ble_eq_true rfl) hkc hks ⟨rfl, rfl, by first | exact no_lt (by omega) (by assumption) | exact no_ge (by omega) (by assumption)⟩
set_option maxRecDepth 100000 in
set_option maxHeartbeats 4000000 in
theorem c_X6_need_att {X : jX} (hs : X.1.stackTraces = false) {d : Nat} (hd : 11 ≤ d) {w : List jC} (a : Nat) (hy0 : a < 2) {kc ks : Nat} (hkc : 1 ≤ kc) (hks : 6 ≤ ks) : jMet X mX6_need d kc ks [.int (nI a)] w (pX (pV (fun w' => w' = w ∧ ¬ a = 0)) (fun E w' => (E = "java/lang/IllegalArgumentException") ∧ w' = w ++ [.inr (99, [])] ∧ a = 0)) := by
  refine jMet_of hs (by decide +kernel) (Nat.le_of_ble_eq_true rfl) (L := [some (.int (nI a))]) rfl ?_
  refine J_iload_n (pc := 0) dX6_need_0 rfl rfl ?_
  refine J_if_neN (pc := 1) (tgt := 15) dX6_need_1 (by decide) (by omega) (fun ht1 => ?_) (fun hf2 => ?_)
  · exact J_vret (pc := 15) dX6_need_15 rfl (⟨rfl, by assumption⟩)
  · exact J_throw (pc := 4) (M := mX6_need) (names := exN) (sa := 9) (text := "an argument is outside what the document lets") (cls := "java/lang/IllegalArgumentException") rfl exN_fit fc_X6_296 fz_IllegalArgumentException js_9 ta_IllegalArgumentException tg_IllegalArgumentException dX6_need_4 dX6_need_7 dX6_need_8 dX6_need_11 dX6_need_14 rfl (by show 2 + 9 ≤ d; omega) (Nat.le_of_ble_eq_true rfl) hkc hks ⟨rfl, rfl, by assumption⟩
set_option maxRecDepth 100000 in
set_option maxHeartbeats 4000000 in
theorem c_X6_needBetween_att {X : jX} (hs : X.1.stackTraces = false) {d : Nat} (hd : 12 ≤ d) {w : List jC} (a : Int32) (b : Int32) (c : Int32) {kc ks : Nat} (hkc : 1 ≤ kc) (hks : 6 ≤ ks) : jMet X mX6_needBetween d kc ks [.int a, .int b, .int c] w (pX (pV (fun w' => w' = w ∧ b ≤ a ∧ a ≤ c)) (fun E w' => (E = "java/lang/IllegalArgumentException") ∧ w' = w ++ [.inr (99, [])] ∧ ¬ (b ≤ a ∧ a ≤ c))) := by
  refine jMet_of hs (by decide +kernel) (Nat.le_of_ble_eq_true rfl) (L := [some (.int a), some (.int b), some (.int c)]) rfl ?_
  refine J_iload_n (pc := 0) dX6_needBetween_0 rfl rfl ?_
  refine J_iload_n (pc := 1) dX6_needBetween_1 rfl rfl ?_
  refine J_icmp_lt (pc := 2) (tgt := 14) dX6_needBetween_2 (by decide) (fun ht1 => ?_) (fun hf2 => ?_)
  · refine J_iconst (pc := 14) (v := nI 0) dX6_needBetween_14 (by decide) ?_
    refine J_callS (pc := 15) (M := mX6_needBetween) (as := [.int (nI 0)]) dX6_needBetween_15 fw_X6_need fl_X6_99 fs_X6_need rfl (c_X6_need_att hs (d := d - 1) (by omega) (w := w) 0 (by omega) (kc := 1) (ks := 6) (Nat.le_refl _) (Nat.le_refl _)) (by omega) (by omega) (by omega) (st := []) (Nat.le_of_ble_eq_true rfl) rfl (kr_X (kr_V fun w3 hw3 => ?_)) (kx_X fun E3 w3 hx3 => ?_)
    · exact absurd rfl hw3.2
    · exact JX_out (fun _ h => nomatch h) (by obtain ⟨h1, h2, _⟩ := hx3; exact ⟨h1, h2, fun h => Int32.not_lt.mpr h.1 ht1⟩)
  · refine J_iload_n (pc := 5) dX6_needBetween_5 rfl rfl ?_
    refine J_iload_n (pc := 6) dX6_needBetween_6 rfl rfl ?_
    refine J_icmp_gt (pc := 7) (tgt := 14) dX6_needBetween_7 (by decide) (fun ht4 => ?_) (fun hf5 => ?_)
    · refine J_iconst (pc := 14) (v := nI 0) dX6_needBetween_14 (by decide) ?_
      refine J_callS (pc := 15) (M := mX6_needBetween) (as := [.int (nI 0)]) dX6_needBetween_15 fw_X6_need fl_X6_99 fs_X6_need rfl (c_X6_need_att hs (d := d - 1) (by omega) (w := w) 0 (by omega) (kc := 1) (ks := 6) (Nat.le_refl _) (Nat.le_refl _)) (by omega) (by omega) (by omega) (st := []) (Nat.le_of_ble_eq_true rfl) rfl (kr_X (kr_V fun w6 hw6 => ?_)) (kx_X fun E6 w6 hx6 => ?_)
      · exact absurd rfl hw6.2
      · exact JX_out (fun _ h => nomatch h) (by obtain ⟨h1, h2, _⟩ := hx6; exact ⟨h1, h2, fun h => Int32.not_lt.mpr h.2 ht4⟩)
    · refine J_iconst (pc := 10) (v := nI 1) dX6_needBetween_10 (by decide) ?_
      refine J_goto (pc := 11) (tgt := 15) dX6_needBetween_11 (by decide) ?_
      refine J_callS (pc := 15) (M := mX6_needBetween) (as := [.int (nI 1)]) dX6_needBetween_15 fw_X6_need fl_X6_99 fs_X6_need rfl (c_X6_need_att hs (d := d - 1) (by omega) (w := w) 1 (by omega) (kc := 1) (ks := 6) (Nat.le_refl _) (Nat.le_refl _)) (by omega) (by omega) (by omega) (st := []) (Nat.le_of_ble_eq_true rfl) rfl (kr_X (kr_V fun w7 hw7 => ?_)) (kx_X fun E7 w7 hx7 => ?_)
      · obtain ⟨hq7, hp7⟩ := hw7
        obtain rfl := hq7.symm
        exact J_vret (pc := 18) dX6_needBetween_18 rfl (⟨rfl, ⟨Int32.not_lt.mp (by assumption), Int32.not_lt.mp (by assumption)⟩⟩)
      · exact JX_out (fun _ h => nomatch h) (by obtain ⟨_, _, h3⟩ := hx7; exact absurd h3 (by decide))
set_option maxRecDepth 100000 in
set_option maxHeartbeats 4000000 in
theorem c_X6_needSet_att {X : jX} (hs : X.1.stackTraces = false) {d : Nat} (hd : 13 ≤ d) {w : List jC} (a : Int32) {kc ks : Nat} (hkc : 1 ≤ kc) (hks : 6 ≤ ks) : jMet X mX6_needSet d kc ks [.int a] w (pX (pV (fun w' => w' = w ∧ ∃ b : Nat, b < 64 ∧ a = nI b)) (fun E w' => (E = "java/lang/IllegalArgumentException") ∧ w' = w ++ [.inr (99, [])] ∧ ∀ b : Nat, b < 64 → a ≠ nI b)) := by
  refine jMet_of hs (by decide +kernel) (Nat.le_of_ble_eq_true rfl) (L := [some (.int a)]) rfl ?_
  refine J_iload_n (pc := 0) dX6_needSet_0 rfl rfl ?_
  refine J_iconst (pc := 1) (v := nI 0) dX6_needSet_1 (by decide) ?_
  refine J_bipush (pc := 2) (v := nI 63) dX6_needSet_2 (by decide) ?_
  refine J_callS (pc := 4) (M := mX6_needSet) (as := [.int a, .int (nI 0), .int (nI 63)]) dX6_needSet_4 fw_X6_needBetween fl_X6_63 fs_X6_needBetween rfl (c_X6_needBetween_att hs (d := d - 1) (by omega) (w := w) a (nI 0) (nI 63) (kc := 1) (ks := 6) (Nat.le_refl _) (Nat.le_refl _)) (by omega) (by omega) (by omega) (st := []) (Nat.le_of_ble_eq_true rfl) rfl (kr_X (kr_V fun w1 hw1 => ?_)) (kx_X fun E1 w1 hx1 => ?_)
  · obtain ⟨hq1, hpa1, hpb1⟩ := hw1
    obtain rfl := hq1.symm
    obtain ⟨b1, hb1, hc1, rfl⟩ := nI_btw hpa1 hpb1 (by omega) (by omega)
    exact J_vret (pc := 7) dX6_needSet_7 rfl ⟨rfl, _, by omega, rfl⟩
  · exact JX_out (fun _ h => nomatch h) (by obtain ⟨h1, h2, h3⟩ := hx1; exact ⟨h1, h2, fun b hb e => h3 (by rw [e]; exact ⟨nI_le (by omega) (by omega), nI_le (by omega) (by omega)⟩)⟩)
