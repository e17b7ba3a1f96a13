/-! contracts of the class -/
set_option maxRecDepth 100000 in
set_option maxHeartbeats 4000000 in
theorem c_X6_blocks {X : jX} (hs : X.1.stackTraces = false) {d : Nat} (hd : 14 ≤ d) {n : Nat} {e r q : Int32} (hn1 : 2 ≤ n) (hn2 : n ≤ 7) {w : List jC} (hS : SH (rX n e r q) w) (p0 : Int32) (p1 : Int32) (p2 : Int32) {kc ks : Nat} (hkc : 3 ≤ kc) (hks : 18 ≤ ks) : jMet X mX6_blocks d kc ks [.ref 0, .int p0, .int p1, .int p2] w (pX (pI (fun _ => True) (fun w' => rS n e r q w w')) (fun E w' => (E = "java/lang/IndexOutOfBoundsException" ∨ E = "java/lang/IllegalArgumentException") ∧ rS n e r q w w')) := by
  refine jMet_of hs (by decide +kernel) (Nat.le_of_ble_eq_true rfl) (L := [some (.ref 0), some (.int p0), some (.int p1), some (.int p2)]) rfl ?_
  have hG : Fr kX w w := Fr.rf
  refine J_aload_n (pc := 0) dX6_blocks_0 rfl rfl rfl ?_
  refine J_iload_n (pc := 1) dX6_blocks_1 rfl rfl ?_
  obtain ⟨_, hc2, rfl⟩ := hS 0 _ rfl
  refine J_callV (pc := 2) (as := [.int p1]) dX6_blocks_2 fw_X6_needPoint fl_X6_86 fm_X6_needPoint fe_X6_needPoint hc2 (by decide) rfl rfl rfl (c_X6_needPoint hs (d := d - 1) (by omega) (e := e) (r := r) (q := q) hn1 hn2 hS (w := w) p1 (kc := 1) (ks := 6) (Nat.le_refl _) (Nat.le_refl _)) (by omega) (by omega) (by omega) (st := []) (Nat.le_of_ble_eq_true rfl) rfl (kr_X (kr_V fun w1 hw1 => ?_)) (kx_X fun E1 w1 hx1 => ?_)
  · obtain ⟨rfl, hp1⟩ := hw1
    obtain ⟨b1, hb1, rfl⟩ := hp1
    refine J_aload_n (pc := 5) dX6_blocks_5 rfl rfl rfl ?_
    refine J_iload_n (pc := 6) dX6_blocks_6 rfl rfl ?_
    refine J_callV (pc := 7) (as := [.int p2]) dX6_blocks_7 fw_X6_needPoint fl_X6_86 fm_X6_needPoint fe_X6_needPoint hc2 (by decide) rfl rfl rfl (c_X6_needPoint hs (d := d - 1) (by omega) (e := e) (r := r) (q := q) hn1 hn2 hS (w := w) p2 (kc := 1) (ks := 6) (Nat.le_refl _) (Nat.le_refl _)) (by omega) (by omega) (by omega) (st := []) (Nat.le_of_ble_eq_true rfl) rfl (kr_X (kr_V fun w3 hw3 => ?_)) (kx_X fun E3 w3 hx3 => ?_)
    · obtain ⟨rfl, hp3⟩ := hw3
      obtain ⟨b3, hb3, rfl⟩ := hp3
      refine J_iload_n (pc := 10) dX6_blocks_10 rfl rfl ?_
      refine J_callS (pc := 11) (as := [.int p0]) dX6_blocks_11 fw_X6_needSet fl_X6_131 fs_X6_needSet rfl (c_X6_needSet hs (d := d - 1) (by omega) (w := w) p0 (kc := 1) (ks := 6) (Nat.le_refl _) (Nat.le_refl _)) (by omega) (by omega) (by omega) (st := []) (Nat.le_of_ble_eq_true rfl) rfl (kr_X (kr_V fun w4 hw4 => ?_)) (kx_X fun E4 w4 hx4 => ?_)
      · subst hw4
        refine J_aload_n (pc := 14) dX6_blocks_14 rfl rfl rfl ?_
        refine J_get (pc := 15) (k := 3) dX6_blocks_15 kC7 (by decide) ff_X6_30 hc2 rfl ?_
        refine J_aload_n (pc := 18) dX6_blocks_18 rfl rfl rfl ?_
        refine J_get (pc := 19) (k := 0) dX6_blocks_19 kC7 (by decide) ff_X6_9 hc2 rfl ?_
        refine J_iload_n (pc := 22) dX6_blocks_22 rfl rfl ?_
        refine J_iload_n (pc := 23) dX6_blocks_23 rfl rfl ?_
        refine J_iload_n (pc := 24) dX6_blocks_24 rfl rfl ?_
        refine J_aload_n (pc := 25) dX6_blocks_25 rfl rfl rfl ?_
        refine J_get (pc := 26) (k := 5) dX6_blocks_26 kC7 (by decide) ff_X6_41 hc2 rfl ?_
        obtain ⟨_, hc6, ka6, rfl, hb6_0⟩ := hS 12 _ rfl
        refine J_callV0 (pc := 29) (as := [.ref 1, .int p0, .int (nI b1), .int (nI b3), .int (nI n)]) dX6_blocks_29 fw_X4_joinBlocks fl_X6_216 fm_X4_joinBlocks fe_X4_joinBlocks hc6 (by decide) rfl rfl rfl (c_X4_joinBlocks hs (d := d - 1) (by omega) (e := e) (r := r) (q := q) hn1 hn2 hS (w := w) p0 b1 b3 (by omega) (by omega) (kc := 0) (ks := 0)) (by omega) (st := []) (Nat.le_of_ble_eq_true rfl) rfl (kr_V fun w5 hw5 => ?_) kx_V
        obtain ⟨hS5, hF5⟩ := hw5
        have hG5 := hG.tr hF5
        refine J_aload_n (pc := 32) dX6_blocks_32 rfl rfl rfl ?_
        obtain ⟨_, hc7, rfl⟩ := hS5 0 _ rfl
        refine J_get (pc := 33) (k := 3) dX6_blocks_33 kC7 (by decide) ff_X6_30 hc7 rfl ?_
        obtain ⟨_, hc9, ka9, rfl, hb9_0⟩ := hS5 12 _ rfl
        refine J_callV0 (pc := 36) (as := []) dX6_blocks_36 fw_X4_parts fl_X6_193 fm_X4_parts fe_X4_parts hc9 (by decide) rfl rfl rfl (c_X4_parts hs (d := d - 1) (by omega) (e := e) (r := r) (q := q) hn1 hn2 hS5 (w := w5)  (kc := 0) (ks := 0)) (by omega) (st := []) (Nat.le_of_ble_eq_true rfl) rfl (kr_P fun v8 hv8 => ?_) kx_I
        exact J_iret (pc := 39) dX6_blocks_39 rfl ⟨trivial, ⟨hS5, hG5⟩⟩
      · exact JX_out (fun _ h => nomatch h) (by obtain ⟨h1, h2⟩ := hx4; exact ⟨Or.inr h1, by subst h2; exact ⟨hS.push, hG.tr Fr.push⟩⟩)
    · exact JX_out (fun _ h => nomatch h) (by obtain ⟨h1, h2⟩ := hx3; exact ⟨Or.inl h1, by subst h2; exact ⟨hS.push, hG.tr Fr.push⟩⟩)
  · exact JX_out (fun _ h => nomatch h) (by obtain ⟨h1, h2⟩ := hx1; exact ⟨Or.inl h1, by subst h2; exact ⟨hS.push, hG.tr Fr.push⟩⟩)
set_option maxRecDepth 100000 in
set_option maxHeartbeats 4000000 in
theorem c_X6_isTwofold {X : jX} (hs : X.1.stackTraces = false) {d : Nat} (hd : 14 ≤ d) {n : Nat} {e r q : Int32} (hn1 : 2 ≤ n) (hn2 : n ≤ 7) {w : List jC} (hS : SH (rX n e r q) w) (p0 : Int32) {kc ks : Nat} (hkc : 1 ≤ kc) (hks : 6 ≤ ks) : jMet X mX6_isTwofold d kc ks [.ref 0, .int p0] w (pX (pI (fun v => ∃ k : Nat, v = nI k ∧ k < 2) (fun w' => rS n e r q w w')) (fun E w' => (E = "java/lang/IllegalArgumentException") ∧ rS n e r q w w')) := by
  refine jMet_of hs (by decide +kernel) (Nat.le_of_ble_eq_true rfl) (L := [some (.ref 0), some (.int p0)]) rfl ?_
  have hG : Fr kX w w := Fr.rf
  refine J_iload_n (pc := 0) dX6_isTwofold_0 rfl rfl ?_
  refine J_callS (pc := 1) (as := [.int p0]) dX6_isTwofold_1 fw_X6_needSet fl_X6_131 fs_X6_needSet rfl (c_X6_needSet hs (d := d - 1) (by omega) (w := w) p0 (kc := 1) (ks := 6) (Nat.le_refl _) (Nat.le_refl _)) (by omega) (by omega) (by omega) (st := []) (Nat.le_of_ble_eq_true rfl) rfl (kr_X (kr_V fun w1 hw1 => ?_)) (kx_X fun E1 w1 hx1 => ?_)
  · subst hw1
    refine J_aload_n (pc := 4) dX6_isTwofold_4 rfl rfl rfl ?_
    obtain ⟨_, hc2, rfl⟩ := hS 0 _ rfl
    refine J_get (pc := 5) (k := 1) dX6_isTwofold_5 kC7 (by decide) ff_X6_16 hc2 rfl ?_
    refine J_aload_n (pc := 8) dX6_isTwofold_8 rfl rfl rfl ?_
    refine J_get (pc := 9) (k := 0) dX6_isTwofold_9 kC7 (by decide) ff_X6_9 hc2 rfl ?_
    refine J_iload_n (pc := 12) dX6_isTwofold_12 rfl rfl ?_
    refine J_ldc (pc := 13) (v := nI 1754760) dX6_isTwofold_13 (by have := fk_X6_56; exact this) ?_
    refine J_aload_n (pc := 15) dX6_isTwofold_15 rfl rfl rfl ?_
    refine J_get (pc := 16) (k := 5) dX6_isTwofold_16 kC7 (by decide) ff_X6_41 hc2 rfl ?_
    obtain ⟨_, hc4, ka4, kf4, kb4, kg4, rfl, hb4_0, hb4_1⟩ := hS 2 _ rfl
    refine J_callV0 (pc := 19) (as := [.ref 1, .int p0, .int (nI 1754760), .int (nI n)]) dX6_isTwofold_19 fw_X0_raise fl_X6_134 fm_X0_raise fe_X0_raise hc4 (by decide) rfl rfl rfl (c_X0_raise hs (d := d - 1) (by omega) (e := e) (r := r) (q := q) hn1 hn2 hS (w := w) p0 (nI 1754760) (kc := 0) (ks := 0)) (by omega) (st := []) (Nat.le_of_ble_eq_true rfl) rfl (kr_V fun w3 hw3 => ?_) kx_V
    obtain ⟨hS3, hF3⟩ := hw3
    have hG3 := hG.tr hF3
    refine J_aload_n (pc := 22) dX6_isTwofold_22 rfl rfl rfl ?_
    obtain ⟨_, hc5, rfl⟩ := hS3 0 _ rfl
    refine J_get (pc := 23) (k := 1) dX6_isTwofold_23 kC7 (by decide) ff_X6_16 hc5 rfl ?_
    refine J_iconst (pc := 26) (v := nI 0) dX6_isTwofold_26 (by decide) ?_
    obtain ⟨_, hc7, ka7, kf7, kb7, kg7, rfl, hb7_0, hb7_1⟩ := hS3 2 _ rfl
    refine J_callV0 (pc := 27) (as := [.int (nI 0)]) dX6_isTwofold_27 fw_X0_reachAt fl_X6_170 fm_X0_reachAt fe_X0_reachAt hc7 (by decide) rfl rfl rfl (c_X0_reachAt hs (d := d - 1) (by omega) (e := e) (r := r) (q := q) hn1 hn2 hS3 (w := w3) (nI 0) (kc := 0) (ks := 0)) (by omega) (st := []) (Nat.le_of_ble_eq_true rfl) rfl (kr_P fun v6 hv6 => ?_) kx_I
    refine J_callS0 (pc := 30) (as := [.int v6]) dX6_isTwofold_30 fw_J6_bitCount_0f7a4 fl_X6_220 fs_J6_bitCount_0f7a4 rfl (c_J6_bitCount_0f7a4 hs (d := d - 1) (by omega) (w := w3) v6 (kc := 0) (ks := 0)) (by omega) (st := []) (Nat.le_of_ble_eq_true rfl) rfl (kr_P fun v8 hv8 => ?_) kx_I
    obtain ⟨k8, rfl, hk8⟩ := hv8
    refine J_aload_n (pc := 33) dX6_isTwofold_33 rfl rfl rfl ?_
    refine J_get (pc := 34) (k := 5) dX6_isTwofold_34 kC7 (by decide) ff_X6_41 hc5 rfl ?_
    refine J_icmp_neN (pc := 37) (tgt := 64) dX6_isTwofold_37 (by decide) (by omega) (by omega) (fun ht9 => ?_) (fun hf10 => ?_)
    · refine J_iconst (pc := 64) (v := nI 0) dX6_isTwofold_64 (by decide) ?_
      exact J_zret (pc := 65) dX6_isTwofold_65 rfl (nar_b (by omega)) ⟨⟨0, rfl, by omega⟩, ⟨hS3, hG3⟩⟩
    · refine J_aload_n (pc := 40) dX6_isTwofold_40 rfl rfl rfl ?_
      refine J_get (pc := 41) (k := 1) dX6_isTwofold_41 kC7 (by decide) ff_X6_16 hc5 rfl ?_
      refine J_iconst (pc := 44) (v := nI 1) dX6_isTwofold_44 (by decide) ?_
      refine J_callV0 (pc := 45) (as := [.int (nI 1)]) dX6_isTwofold_45 fw_X0_reachAt fl_X6_170 fm_X0_reachAt fe_X0_reachAt hc7 (by decide) rfl rfl rfl (c_X0_reachAt hs (d := d - 1) (by omega) (e := e) (r := r) (q := q) hn1 hn2 hS3 (w := w3) (nI 1) (kc := 0) (ks := 0)) (by omega) (st := []) (Nat.le_of_ble_eq_true rfl) rfl (kr_P fun v11 hv11 => ?_) kx_I
      refine J_callS0 (pc := 48) (as := [.int v11]) dX6_isTwofold_48 fw_J6_bitCount_0f7a4 fl_X6_220 fs_J6_bitCount_0f7a4 rfl (c_J6_bitCount_0f7a4 hs (d := d - 1) (by omega) (w := w3) v11 (kc := 0) (ks := 0)) (by omega) (st := []) (Nat.le_of_ble_eq_true rfl) rfl (kr_P fun v12 hv12 => ?_) kx_I
      obtain ⟨k12, rfl, hk12⟩ := hv12
      refine J_aload_n (pc := 51) dX6_isTwofold_51 rfl rfl rfl ?_
      refine J_get (pc := 52) (k := 5) dX6_isTwofold_52 kC7 (by decide) ff_X6_41 hc5 rfl ?_
      refine J_iconst (pc := 55) (v := nI 1) dX6_isTwofold_55 (by decide) ?_
      refine J_isubN (pc := 56) dX6_isTwofold_56 (by omega) ?_
      refine J_icmp_neN (pc := 57) (tgt := 64) dX6_isTwofold_57 (by decide) (by omega) (by omega) (fun ht13 => ?_) (fun hf14 => ?_)
      · refine J_iconst (pc := 64) (v := nI 0) dX6_isTwofold_64 (by decide) ?_
        exact J_zret (pc := 65) dX6_isTwofold_65 rfl (nar_b (by omega)) ⟨⟨0, rfl, by omega⟩, ⟨hS3, hG3⟩⟩
      · refine J_iconst (pc := 60) (v := nI 1) dX6_isTwofold_60 (by decide) ?_
        refine J_goto (pc := 61) (tgt := 65) dX6_isTwofold_61 (by decide) ?_
        exact J_zret (pc := 65) dX6_isTwofold_65 rfl (nar_b (by omega)) ⟨⟨1, rfl, by omega⟩, ⟨hS3, hG3⟩⟩
  · exact JX_out (fun _ h => nomatch h) (by obtain ⟨h1, h2⟩ := hx1; exact ⟨h1, by subst h2; exact ⟨hS.push, hG.tr Fr.push⟩⟩)
set_option maxRecDepth 100000 in
set_option maxHeartbeats 4000000 in
theorem c_X6_enough {X : jX} (hs : X.1.stackTraces = false) {d : Nat} (hd : 14 ≤ d) {n : Nat} {e r q : Int32} (hn1 : 2 ≤ n) (hn2 : n ≤ 7) {w : List jC} (hS : SH (rX n e r q) w) (p0 : Int32) {kc ks : Nat} (hkc : 1 ≤ kc) (hks : 6 ≤ ks) : jMet X mX6_enough d kc ks [.ref 0, .int p0] w (pX (pI (fun _ => True) (fun w' => rS n e r q w w')) (fun E w' => (E = "java/lang/IllegalArgumentException") ∧ rS n e r q w w')) := by
  refine jMet_of hs (by decide +kernel) (Nat.le_of_ble_eq_true rfl) (L := [some (.ref 0), some (.int p0)]) rfl ?_
  have hG : Fr kX w w := Fr.rf
  refine J_iload_n (pc := 0) dX6_enough_0 rfl rfl ?_
  refine J_callS (pc := 1) (as := [.int p0]) dX6_enough_1 fw_X6_needSet fl_X6_131 fs_X6_needSet rfl (c_X6_needSet hs (d := d - 1) (by omega) (w := w) p0 (kc := 1) (ks := 6) (Nat.le_refl _) (Nat.le_refl _)) (by omega) (by omega) (by omega) (st := []) (Nat.le_of_ble_eq_true rfl) rfl (kr_X (kr_V fun w1 hw1 => ?_)) (kx_X fun E1 w1 hx1 => ?_)
  · subst hw1
    refine J_aload_n (pc := 4) dX6_enough_4 rfl rfl rfl ?_
    obtain ⟨_, hc2, rfl⟩ := hS 0 _ rfl
    refine J_get (pc := 5) (k := 1) dX6_enough_5 kC7 (by decide) ff_X6_16 hc2 rfl ?_
    refine J_aload_n (pc := 8) dX6_enough_8 rfl rfl rfl ?_
    refine J_get (pc := 9) (k := 0) dX6_enough_9 kC7 (by decide) ff_X6_9 hc2 rfl ?_
    refine J_iload_n (pc := 12) dX6_enough_12 rfl rfl ?_
    refine J_ldc (pc := 13) (v := nI 1754760) dX6_enough_13 (by have := fk_X6_56; exact this) ?_
    refine J_aload_n (pc := 15) dX6_enough_15 rfl rfl rfl ?_
    refine J_get (pc := 16) (k := 5) dX6_enough_16 kC7 (by decide) ff_X6_41 hc2 rfl ?_
    obtain ⟨_, hc4, ka4, kf4, kb4, kg4, rfl, hb4_0, hb4_1⟩ := hS 2 _ rfl
    refine J_callV0 (pc := 19) (as := [.ref 1, .int p0, .int (nI 1754760), .int (nI n)]) dX6_enough_19 fw_X0_raise fl_X6_134 fm_X0_raise fe_X0_raise hc4 (by decide) rfl rfl rfl (c_X0_raise hs (d := d - 1) (by omega) (e := e) (r := r) (q := q) hn1 hn2 hS (w := w) p0 (nI 1754760) (kc := 0) (ks := 0)) (by omega) (st := []) (Nat.le_of_ble_eq_true rfl) rfl (kr_V fun w3 hw3 => ?_) kx_V
    obtain ⟨hS3, hF3⟩ := hw3
    have hG3 := hG.tr hF3
    refine J_aload_n (pc := 22) dX6_enough_22 rfl rfl rfl ?_
    obtain ⟨_, hc5, rfl⟩ := hS3 0 _ rfl
    refine J_get (pc := 23) (k := 1) dX6_enough_23 kC7 (by decide) ff_X6_16 hc5 rfl ?_
    obtain ⟨_, hc7, ka7, kf7, kb7, kg7, rfl, hb7_0, hb7_1⟩ := hS3 2 _ rfl
    refine J_callV0 (pc := 26) (as := []) dX6_enough_26 fw_X0_takenCells fl_X6_225 fm_X0_takenCells fe_X0_takenCells hc7 (by decide) rfl rfl rfl (c_X0_takenCells hs (d := d - 1) (by omega) (e := e) (r := r) (q := q) hn1 hn2 hS3 (w := w3)  (kc := 0) (ks := 0)) (by omega) (st := []) (Nat.le_of_ble_eq_true rfl) rfl (kr_P fun v6 hv6 => ?_) kx_I
    exact J_iret (pc := 29) dX6_enough_29 rfl ⟨trivial, ⟨hS3, hG3⟩⟩
  · exact JX_out (fun _ h => nomatch h) (by obtain ⟨h1, h2⟩ := hx1; exact ⟨h1, by subst h2; exact ⟨hS.push, hG.tr Fr.push⟩⟩)
set_option maxRecDepth 100000 in
set_option maxHeartbeats 4000000 in
theorem c_X6_house {X : jX} (hs : X.1.stackTraces = false) {d : Nat} (hd : 13 ≤ d) {n : Nat} {e r q : Int32} (hn1 : 2 ≤ n) (hn2 : n ≤ 7) {w : List jC} (hS : SH (rX n e r q) w) (p0 : Int32) {kc ks : Nat} (hkc : 1 ≤ kc) (hks : 6 ≤ ks) : jMet X mX6_house d kc ks [.ref 0, .int p0] w (pX (pI (fun _ => True) (fun w' => w' = w)) (fun E w' => (E = "java/lang/IllegalArgumentException") ∧ w' = w ++ [.inr (99, [])])) := by
  refine jMet_of hs (by decide +kernel) (Nat.le_of_ble_eq_true rfl) (L := [some (.ref 0), some (.int p0)]) rfl ?_
  have hG : Fr kX w w := Fr.rf
  refine J_iload_n (pc := 0) dX6_house_0 rfl rfl ?_
  refine J_iconst (pc := 1) (v := nI 0) dX6_house_1 (by decide) ?_
  refine J_iconst (pc := 2) (v := nI 2) dX6_house_2 (by decide) ?_
  refine J_callS (pc := 3) (as := [.int p0, .int (nI 0), .int (nI 2)]) dX6_house_3 fw_X6_needBetween fl_X6_63 fs_X6_needBetween rfl (c_X6_needBetween hs (d := d - 1) (by omega) (w := w) p0 (nI 0) (nI 2) (kc := 1) (ks := 6) (Nat.le_refl _) (Nat.le_refl _)) (by omega) (by omega) (by omega) (st := []) (Nat.le_of_ble_eq_true rfl) rfl (kr_X (kr_V fun w1 hw1 => ?_)) (kx_X fun E1 w1 hx1 => ?_)
  · obtain ⟨rfl, hpa1, hpb1⟩ := hw1
    obtain ⟨b1, hb1, hc1, rfl⟩ := nI_btw hpa1 hpb1 (by omega) (by omega)
    refine J_iload_n (pc := 6) dX6_house_6 rfl rfl ?_
    refine J_if_neN (pc := 7) (tgt := 15) dX6_house_7 (by decide) (by omega) (fun ht2 => ?_) (fun hf3 => ?_)
    · refine J_iload_n (pc := 15) dX6_house_15 rfl rfl ?_
      refine J_iconst (pc := 16) (v := nI 1) dX6_house_16 (by decide) ?_
      refine J_icmp_neN (pc := 17) (tgt := 27) dX6_house_17 (by decide) (by omega) (by omega) (fun ht4 => ?_) (fun hf5 => ?_)
      · refine J_aload_n (pc := 27) dX6_house_27 rfl rfl rfl ?_
        obtain ⟨_, hc6, rfl⟩ := hS 0 _ rfl
        refine J_get (pc := 28) (k := 8) dX6_house_28 kC7 (by decide) ff_X6_51 hc6 rfl ?_
        exact J_iret (pc := 31) dX6_house_31 rfl ⟨trivial, rfl⟩
      · refine J_aload_n (pc := 20) dX6_house_20 rfl rfl rfl ?_
        obtain ⟨_, hc7, rfl⟩ := hS 0 _ rfl
        refine J_get (pc := 21) (k := 7) dX6_house_21 kC7 (by decide) ff_X6_48 hc7 rfl ?_
        refine J_goto (pc := 24) (tgt := 31) dX6_house_24 (by decide) ?_
        exact J_iret (pc := 31) dX6_house_31 rfl ⟨trivial, rfl⟩
    · refine J_aload_n (pc := 10) dX6_house_10 rfl rfl rfl ?_
      obtain ⟨_, hc8, rfl⟩ := hS 0 _ rfl
      refine J_get (pc := 11) (k := 6) dX6_house_11 kC7 (by decide) ff_X6_45 hc8 rfl ?_
      exact J_iret (pc := 14) dX6_house_14 rfl ⟨trivial, rfl⟩
  · exact JX_out (fun _ h => nomatch h) (by obtain ⟨h1, h2⟩ := hx1; exact ⟨h1, h2⟩)
set_option maxRecDepth 100000 in
set_option maxHeartbeats 4000000 in
theorem c_X6_knock {X : jX} (hs : X.1.stackTraces = false) {d : Nat} (hd : 0 ≤ d) {n : Nat} {e r q : Int32} (hn1 : 2 ≤ n) (hn2 : n ≤ 7) {w : List jC} (hS : SH (rX n e r q) w) {kc ks : Nat} : jMet X mX6_knock d kc ks [.ref 0] w (pI (fun v => v = q + nI 1) (fun w' => rS n e r (q + nI 1) w w')) := by
  refine jMet_of hs (by decide +kernel) (Nat.le_of_ble_eq_true rfl) (L := [some (.ref 0)]) rfl ?_
  have hG : Fr kX w w := Fr.rf
  refine J_aload_n (pc := 0) dX6_knock_0 rfl rfl rfl ?_
  refine J_dup (pc := 1) dX6_knock_1 rfl ?_
  obtain ⟨_, hc1, rfl⟩ := hS 0 _ rfl
  refine J_get (pc := 2) (k := 8) dX6_knock_2 kC7 (by decide) ff_X6_51 hc1 rfl ?_
  refine J_iconst (pc := 5) (v := nI 1) dX6_knock_5 (by decide) ?_
  refine J_iadd (pc := 6) dX6_knock_6 ?_
  refine J_put0 (pc := 7) (n' := n) (e' := e) (r' := r) (q' := (q + nI 1)) (k := 8) dX6_knock_7 kC7 (by decide) ff_X6_51 (Or.inl rfl) ⟨rfl, rfl⟩ hS (by decide) rfl (fun w2 hS2 hne2 hF2 => ?_)
  have hG2 := hG.tr hF2
  refine J_aload_n (pc := 10) dX6_knock_10 rfl rfl rfl ?_
  obtain ⟨_, hc3, rfl⟩ := hS2 0 _ rfl
  refine J_get (pc := 11) (k := 8) dX6_knock_11 kC7 (by decide) ff_X6_51 hc3 rfl ?_
  exact J_iret (pc := 14) dX6_knock_14 rfl ⟨rfl, ⟨hS2, hG2⟩⟩
set_option maxRecDepth 100000 in
set_option maxHeartbeats 4000000 in
theorem c_X6_raiseAll {X : jX} (hs : X.1.stackTraces = false) {d : Nat} (hd : 5 ≤ d) {n : Nat} {e r q : Int32} (hn1 : 2 ≤ n) (hn2 : n ≤ 7) {w : List jC} (hS : SH (rX n e r q) w) {kc ks : Nat} : jMet X mX6_raiseAll d kc ks [.ref 0] w (pV (fun w' => rS n e r q w w')) := by
  refine jMet_of hs (by decide +kernel) (Nat.le_of_ble_eq_true rfl) (L := [some (.ref 0)]) rfl ?_
  have hG : Fr kX w w := Fr.rf
  refine J_aload_n (pc := 0) dX6_raiseAll_0 rfl rfl rfl ?_
  obtain ⟨_, hc1, rfl⟩ := hS 0 _ rfl
  refine J_get (pc := 1) (k := 1) dX6_raiseAll_1 kC7 (by decide) ff_X6_16 hc1 rfl ?_
  refine J_aload_n (pc := 4) dX6_raiseAll_4 rfl rfl rfl ?_
  refine J_get (pc := 5) (k := 0) dX6_raiseAll_5 kC7 (by decide) ff_X6_9 hc1 rfl ?_
  refine J_bipush (pc := 8) (v := nI 63) dX6_raiseAll_8 (by decide) ?_
  refine J_aload_n (pc := 10) dX6_raiseAll_10 rfl rfl rfl ?_
  refine J_get (pc := 11) (k := 0) dX6_raiseAll_11 kC7 (by decide) ff_X6_9 hc1 rfl ?_
  refine J_iconst (pc := 14) (v := nI 0) dX6_raiseAll_14 (by decide) ?_
  obtain ⟨_, hc2, xs2, rfl, hl2⟩ := hS 1 _ rfl
  refine J_iald (pc := 15) dX6_raiseAll_15 hc2 (nI_in (by omega) (by omega)) (J_absI fun x3 => ?_)
  refine J_aload_n (pc := 16) dX6_raiseAll_16 rfl rfl rfl ?_
  refine J_get (pc := 17) (k := 5) dX6_raiseAll_17 kC7 (by decide) ff_X6_41 hc1 rfl ?_
  obtain ⟨_, hc5, ka5, kf5, kb5, kg5, rfl, hb5_0, hb5_1⟩ := hS 2 _ rfl
  refine J_callV0 (pc := 20) (as := [.ref 1, .int (nI 63), .int x3, .int (nI n)]) dX6_raiseAll_20 fw_X0_raise fl_X6_134 fm_X0_raise fe_X0_raise hc5 (by decide) rfl rfl rfl (c_X0_raise hs (d := d - 1) (by omega) (e := e) (r := r) (q := q) hn1 hn2 hS (w := w) (nI 63) x3 (kc := 0) (ks := 0)) (by omega) (st := []) (Nat.le_of_ble_eq_true rfl) rfl (kr_V fun w4 hw4 => ?_) kx_V
  obtain ⟨hS4, hF4⟩ := hw4
  have hG4 := hG.tr hF4
  refine J_aload_n (pc := 23) dX6_raiseAll_23 rfl rfl rfl ?_
  obtain ⟨_, hc6, rfl⟩ := hS4 0 _ rfl
  refine J_get (pc := 24) (k := 2) dX6_raiseAll_24 kC7 (by decide) ff_X6_23 hc6 rfl ?_
  refine J_aload_n (pc := 27) dX6_raiseAll_27 rfl rfl rfl ?_
  refine J_get (pc := 28) (k := 0) dX6_raiseAll_28 kC7 (by decide) ff_X6_9 hc6 rfl ?_
  refine J_bipush (pc := 31) (v := nI 63) dX6_raiseAll_31 (by decide) ?_
  refine J_aload_n (pc := 33) dX6_raiseAll_33 rfl rfl rfl ?_
  refine J_get (pc := 34) (k := 5) dX6_raiseAll_34 kC7 (by decide) ff_X6_41 hc6 rfl ?_
  obtain ⟨_, hc8, ka8, rfl, hb8_0⟩ := hS4 8 _ rfl
  refine J_callV0 (pc := 37) (as := [.ref 1, .int (nI 63), .int (nI n)]) dX6_raiseAll_37 fw_X5_goThrough fl_X6_177 fm_X5_goThrough fe_X5_goThrough hc8 (by decide) rfl rfl rfl (c_X5_goThrough hs (d := d - 1) (by omega) (e := e) (r := r) (q := q) hn1 hn2 hS4 (w := w4) (nI 63) (kc := 0) (ks := 0)) (by omega) (st := []) (Nat.le_of_ble_eq_true rfl) rfl (kr_V fun w7 hw7 => ?_) kx_V
  obtain ⟨hS7, hF7⟩ := hw7
  have hG7 := hG4.tr hF7
  exact J_vret (pc := 40) dX6_raiseAll_40 rfl (⟨hS7, hG7⟩)
set_option maxRecDepth 100000 in
set_option maxHeartbeats 4000000 in
theorem c_X6_sizesAgree {X : jX} (hs : X.1.stackTraces = false) {d : Nat} (hd : 2 ≤ d) {n : Nat} {e r q : Int32} (hn1 : 2 ≤ n) (hn2 : n ≤ 7) {w : List jC} (hS : SH (rX n e r q) w) {kc ks : Nat} : jMet X mX6_sizesAgree d kc ks [.ref 0] w (pI (fun v => ∃ k : Nat, v = nI k ∧ k < 2) (fun w' => w' = w)) := by
  refine jMet_of hs (by decide +kernel) (Nat.le_of_ble_eq_true rfl) (L := [some (.ref 0)]) rfl ?_
  have hG : Fr kX w w := Fr.rf
  refine J_aload_n (pc := 0) dX6_sizesAgree_0 rfl rfl rfl ?_
  obtain ⟨_, hc1, rfl⟩ := hS 0 _ rfl
  refine J_get (pc := 1) (k := 1) dX6_sizesAgree_1 kC7 (by decide) ff_X6_16 hc1 rfl ?_
  obtain ⟨_, hc3, ka3, kf3, kb3, kg3, rfl, hb3_0, hb3_1⟩ := hS 2 _ rfl
  refine J_callV0 (pc := 4) (as := []) dX6_sizesAgree_4 fw_X0_total fl_X6_138 fm_X0_total fe_X0_total hc3 (by decide) rfl rfl rfl (c_X0_total hs (d := d - 1) (by omega) (e := e) (r := r) (q := q) hn1 hn2 hS (w := w)  (kc := 0) (ks := 0)) (by omega) (st := []) (Nat.le_of_ble_eq_true rfl) rfl (kr_P fun v2 hv2 => ?_) kx_I
  refine J_aload_n (pc := 7) dX6_sizesAgree_7 rfl rfl rfl ?_
  refine J_get (pc := 8) (k := 2) dX6_sizesAgree_8 kC7 (by decide) ff_X6_23 hc1 rfl ?_
  obtain ⟨_, hc5, ka5, rfl, hb5_0⟩ := hS 8 _ rfl
  refine J_callV0 (pc := 11) (as := []) dX6_sizesAgree_11 fw_X5_length fl_X6_283 fm_X5_length fe_X5_length hc5 (by decide) rfl rfl rfl (c_X5_length hs (d := d - 1) (by omega) (e := e) (r := r) (q := q) hn1 hn2 hS (w := w)  (kc := 0) (ks := 0)) (by omega) (st := [.int v2]) (Nat.le_of_ble_eq_true rfl) rfl (kr_P fun v4 hv4 => ?_) kx_I
  obtain ⟨k4, rfl, hk4⟩ := hv4
  refine J_icmp_ne (pc := 14) (tgt := 41) dX6_sizesAgree_14 (by decide) (fun ht6 => ?_) (fun hf7 => ?_)
  · refine J_iconst (pc := 41) (v := nI 0) dX6_sizesAgree_41 (by decide) ?_
    exact J_zret (pc := 42) dX6_sizesAgree_42 rfl (nar_b (by omega)) ⟨⟨0, rfl, by omega⟩, rfl⟩
  · refine J_aload_n (pc := 17) dX6_sizesAgree_17 rfl rfl rfl ?_
    refine J_get (pc := 18) (k := 1) dX6_sizesAgree_18 kC7 (by decide) ff_X6_16 hc1 rfl ?_
    refine J_callV0 (pc := 21) (as := []) dX6_sizesAgree_21 fw_X0_total fl_X6_138 fm_X0_total fe_X0_total hc3 (by decide) rfl rfl rfl (c_X0_total hs (d := d - 1) (by omega) (e := e) (r := r) (q := q) hn1 hn2 hS (w := w)  (kc := 0) (ks := 0)) (by omega) (st := []) (Nat.le_of_ble_eq_true rfl) rfl (kr_P fun v8 hv8 => ?_) kx_I
    refine J_aload_n (pc := 24) dX6_sizesAgree_24 rfl rfl rfl ?_
    refine J_get (pc := 25) (k := 5) dX6_sizesAgree_25 kC7 (by decide) ff_X6_41 hc1 rfl ?_
    refine J_callS0 (pc := 28) (as := [.int (nI n)]) dX6_sizesAgree_28 fw_X2_factorial fl_X6_71 fs_X2_factorial rfl (c_X2_factorial hs (d := d - 1) (by omega) (w := w) n (by omega) (kc := 0) (ks := 0)) (by omega) (st := [.int v8]) (Nat.le_of_ble_eq_true rfl) rfl (kr_P fun v9 hv9 => ?_) kx_I
    refine J_callS0 (pc := 31) (as := [.int v8, .int v9]) dX6_sizesAgree_31 fw_X6_divides fl_X6_284 fs_X6_divides rfl (c_X6_divides hs (d := d - 1) (by omega) (w := w) v8 v9 (kc := 0) (ks := 0)) (by omega) (st := []) (Nat.le_of_ble_eq_true rfl) rfl (kr_P fun v10 hv10 => ?_) kx_I
    obtain ⟨k10, rfl, hk10⟩ := hv10
    refine J_if_eqN (pc := 34) (tgt := 41) dX6_sizesAgree_34 (by decide) (by omega) (fun ht11 => ?_) (fun hf12 => ?_)
    · refine J_iconst (pc := 41) (v := nI 0) dX6_sizesAgree_41 (by decide) ?_
      exact J_zret (pc := 42) dX6_sizesAgree_42 rfl (nar_b (by omega)) ⟨⟨0, rfl, by omega⟩, rfl⟩
    · refine J_iconst (pc := 37) (v := nI 1) dX6_sizesAgree_37 (by decide) ?_
      refine J_goto (pc := 38) (tgt := 42) dX6_sizesAgree_38 (by decide) ?_
      exact J_zret (pc := 42) dX6_sizesAgree_42 rfl (nar_b (by omega)) ⟨⟨1, rfl, by omega⟩, rfl⟩
set_option maxRecDepth 100000 in
set_option maxHeartbeats 4000000 in
theorem c_X6_ranksAgree {X : jX} (hs : X.1.stackTraces = false) {d : Nat} (hd : 4 ≤ d) {n : Nat} {e r q : Int32} (hn1 : 2 ≤ n) (hn2 : n ≤ 7) {w : List jC} (hS : SH (rX n e r q) w) {kc ks : Nat} : jMet X mX6_ranksAgree d kc ks [.ref 0] w (pI (fun v => ∃ k : Nat, v = nI k ∧ k < 2) (fun w' => w' = w)) := by
  refine jMet_of hs (by decide +kernel) (Nat.le_of_ble_eq_true rfl) (L := [some (.ref 0), none, none, none]) rfl ?_
  have hG : Fr kX w w := Fr.rf
  refine J_aload_n (pc := 0) dX6_ranksAgree_0 rfl rfl rfl ?_
  obtain ⟨_, hc1, rfl⟩ := hS 0 _ rfl
  refine J_get (pc := 1) (k := 1) dX6_ranksAgree_1 kC7 (by decide) ff_X6_16 hc1 rfl ?_
  obtain ⟨_, hc3, ka3, kf3, kb3, kg3, rfl, hb3_0, hb3_1⟩ := hS 2 _ rfl
  refine J_callV0 (pc := 4) (as := []) dX6_ranksAgree_4 fw_X0_total fl_X6_138 fm_X0_total fe_X0_total hc3 (by decide) rfl rfl rfl (c_X0_total hs (d := d - 1) (by omega) (e := e) (r := r) (q := q) hn1 hn2 hS (w := w)  (kc := 0) (ks := 0)) (by omega) (st := []) (Nat.le_of_ble_eq_true rfl) rfl (kr_P fun v2 hv2 => ?_) kx_I
  refine J_istore_n (pc := 7) dX6_ranksAgree_7 rfl (by decide) rfl ?_
  show J X mX6_ranksAgree d kc ks 8 [some (.ref 0), some (.int v2), none, none] [] w _
  refine J_iconst (pc := 8) (v := nI 0) dX6_ranksAgree_8 (by decide) ?_
  refine J_istore_n (pc := 9) dX6_ranksAgree_9 rfl (by decide) rfl ?_
  show J X mX6_ranksAgree d kc ks 10 [some (.ref 0), some (.int v2), some (.int (nI 0)), none] [] w _
  have htn6 := tN_lt v2
  have lp10_4 : ∀ (fuel : Nat) (c2 : Nat), c2 < 2147483648 → (tN v2) - c2 < fuel → J X mX6_ranksAgree d kc ks 10 [some (.ref 0), some (.int v2), some (.int (nI c2)), none] [] w (pI (fun v => ∃ k : Nat, v = nI k ∧ k < 2) (fun w' => w' = w)) := by
    intro fuellp10_4
    induction fuellp10_4 with
    | zero => intros; omega
    | succ fuellp10_4 ihlp10_4 =>
      intro c2 hi5 hf7
      refine J_iload_n (pc := 10) dX6_ranksAgree_10 rfl rfl ?_
      refine J_iload_n (pc := 11) dX6_ranksAgree_11 rfl rfl ?_
      refine J_icmp_geI (pc := 12) (tgt := 57) dX6_ranksAgree_12 (by decide) (by omega) (fun ht8 => ?_) (fun hf9 => ?_)
      · refine J_iconst (pc := 57) (v := nI 1) dX6_ranksAgree_57 (by decide) ?_
        exact J_zret (pc := 58) dX6_ranksAgree_58 rfl (nar_b (by omega)) ⟨⟨1, rfl, by omega⟩, rfl⟩
      · refine J_aload_n (pc := 15) dX6_ranksAgree_15 rfl rfl rfl ?_
        refine J_get (pc := 16) (k := 1) dX6_ranksAgree_16 kC7 (by decide) ff_X6_16 hc1 rfl ?_
        refine J_iload_n (pc := 19) dX6_ranksAgree_19 rfl rfl ?_
        refine J_ldc (pc := 20) (v := nI 1754760) dX6_ranksAgree_20 (by have := fk_X6_56; exact this) ?_
        refine J_callV0 (pc := 22) (as := [.int (nI c2), .int (nI 1754760)]) dX6_ranksAgree_22 fw_X0_moveAt fl_X6_141 fm_X0_moveAt fe_X0_moveAt hc3 (by decide) rfl rfl rfl (c_X0_moveAt hs (d := d - 1) (by omega) (e := e) (r := r) (q := q) hn1 hn2 hS (w := w) (nI c2) (nI 1754760) (kc := 0) (ks := 0)) (by omega) (st := []) (Nat.le_of_ble_eq_true rfl) rfl (kr_P fun v10 hv10 => ?_) kx_I
        refine J_istore_n (pc := 25) dX6_ranksAgree_25 rfl (by decide) rfl ?_
        show J X mX6_ranksAgree d kc ks 26 [some (.ref 0), some (.int v2), some (.int (nI c2)), some (.int v10)] [] w _
        refine J_aload_n (pc := 26) dX6_ranksAgree_26 rfl rfl rfl ?_
        refine J_get (pc := 27) (k := 1) dX6_ranksAgree_27 kC7 (by decide) ff_X6_16 hc1 rfl ?_
        refine J_iload_n (pc := 30) dX6_ranksAgree_30 rfl rfl ?_
        refine J_callV0 (pc := 31) (as := [.int v10]) dX6_ranksAgree_31 fw_X0_rankOf fl_X6_184 fm_X0_rankOf fe_X0_rankOf hc3 (by decide) rfl rfl rfl (c_X0_rankOf hs (d := d - 1) (by omega) (e := e) (r := r) (q := q) hn1 hn2 hS (w := w) v10 (kc := 0) (ks := 0)) (by omega) (st := []) (Nat.le_of_ble_eq_true rfl) rfl (kr_P fun v11 hv11 => ?_) kx_I
        refine J_iload_n (pc := 34) dX6_ranksAgree_34 rfl rfl ?_
        refine J_icmp_ne (pc := 35) (tgt := 49) dX6_ranksAgree_35 (by decide) (fun ht12 => ?_) (fun hf13 => ?_)
        · refine J_iconst (pc := 49) (v := nI 0) dX6_ranksAgree_49 (by decide) ?_
          exact J_zret (pc := 50) dX6_ranksAgree_50 rfl (nar_b (by omega)) ⟨⟨0, rfl, by omega⟩, rfl⟩
        · refine J_iload_n (pc := 38) dX6_ranksAgree_38 rfl rfl ?_
          refine J_callS0 (pc := 39) (as := [.int v10]) dX6_ranksAgree_39 fw_X2_orderOf fl_X6_164 fs_X2_orderOf rfl (c_X2_orderOf hs (d := d - 1) (by omega) (w := w) v10 (kc := 0) (ks := 0)) (by omega) (st := []) (Nat.le_of_ble_eq_true rfl) rfl (kr_P fun v14 hv14 => ?_) kx_I
          obtain ⟨k14, rfl, hk14⟩ := hv14
          refine J_iload_n (pc := 42) dX6_ranksAgree_42 rfl rfl ?_
          refine J_callS0 (pc := 43) (as := [.int (nI k14), .int v2]) dX6_ranksAgree_43 fw_X6_divides fl_X6_284 fs_X6_divides rfl (c_X6_divides hs (d := d - 1) (by omega) (w := w) (nI k14) v2 (kc := 0) (ks := 0)) (by omega) (st := []) (Nat.le_of_ble_eq_true rfl) rfl (kr_P fun v15 hv15 => ?_) kx_I
          obtain ⟨k15, rfl, hk15⟩ := hv15
          refine J_if_neN (pc := 46) (tgt := 51) dX6_ranksAgree_46 (by decide) (by omega) (fun ht16 => ?_) (fun hf17 => ?_)
          · refine J_iincN (pc := 51) (b := 1) dX6_ranksAgree_51 rfl (by decide) (by decide) rfl ?_
            show J X mX6_ranksAgree d kc ks 54 [some (.ref 0), some (.int v2), some (.int (nI (c2 + 1))), some (.int v10)] [] w _
            refine J_goto (pc := 54) (tgt := 10) dX6_ranksAgree_54 (by decide) ?_
            exact J_sub (L' := [some (.ref 0), some (.int v2), some (.int (nI (c2 + 1))), none]) ⟨rfl, ⟨rfl, ⟨rfl, trivial⟩⟩⟩ (ihlp10_4 (c2 + 1) (by first | assumption | omega) (by omega))
          · refine J_iconst (pc := 49) (v := nI 0) dX6_ranksAgree_49 (by decide) ?_
            exact J_zret (pc := 50) dX6_ranksAgree_50 rfl (nar_b (by omega)) ⟨⟨0, rfl, by omega⟩, rfl⟩
  exact J_sub (L' := [some (.ref 0), some (.int v2), some (.int (nI 0)), none]) ⟨rfl, ⟨rfl, ⟨rfl, trivial⟩⟩⟩ (lp10_4 _ 0 (by first | assumption | omega) (Nat.lt_succ_self _))
set_option maxRecDepth 100000 in
set_option maxHeartbeats 4000000 in
theorem c_X6_signsAgree {X : jX} (hs : X.1.stackTraces = false) {d : Nat} (hd : 5 ≤ d) {n : Nat} {e r q : Int32} (hn1 : 2 ≤ n) (hn2 : n ≤ 7) {w : List jC} (hS : SH (rX n e r q) w) {kc ks : Nat} : jMet X mX6_signsAgree d kc ks [.ref 0] w (pI (fun v => ∃ k : Nat, v = nI k ∧ k < 2) (fun w' => w' = w)) := by
  refine jMet_of hs (by decide +kernel) (Nat.le_of_ble_eq_true rfl) (L := [some (.ref 0), none]) rfl ?_
  have hG : Fr kX w w := Fr.rf
  refine J_aload_n (pc := 0) dX6_signsAgree_0 rfl rfl rfl ?_
  obtain ⟨_, hc1, rfl⟩ := hS 0 _ rfl
  refine J_get (pc := 1) (k := 2) dX6_signsAgree_1 kC7 (by decide) ff_X6_23 hc1 rfl ?_
  obtain ⟨_, hc3, ka3, rfl, hb3_0⟩ := hS 8 _ rfl
  refine J_callV0 (pc := 4) (as := []) dX6_signsAgree_4 fw_X5_howManyEven fl_X6_199 fm_X5_howManyEven fe_X5_howManyEven hc3 (by decide) rfl rfl rfl (c_X5_howManyEven hs (d := d - 1) (by omega) (e := e) (r := r) (q := q) hn1 hn2 hS (w := w)  (kc := 0) (ks := 0)) (by omega) (st := []) (Nat.le_of_ble_eq_true rfl) rfl (kr_P fun v2 hv2 => ?_) kx_I
  refine J_istore_n (pc := 7) dX6_signsAgree_7 rfl (by decide) rfl ?_
  show J X mX6_signsAgree d kc ks 8 [some (.ref 0), some (.int v2)] [] w _
  refine J_iload_n (pc := 8) dX6_signsAgree_8 rfl rfl ?_
  refine J_aload_n (pc := 9) dX6_signsAgree_9 rfl rfl rfl ?_
  refine J_get (pc := 10) (k := 2) dX6_signsAgree_10 kC7 (by decide) ff_X6_23 hc1 rfl ?_
  refine J_callV0 (pc := 13) (as := []) dX6_signsAgree_13 fw_X5_length fl_X6_283 fm_X5_length fe_X5_length hc3 (by decide) rfl rfl rfl (c_X5_length hs (d := d - 1) (by omega) (e := e) (r := r) (q := q) hn1 hn2 hS (w := w)  (kc := 0) (ks := 0)) (by omega) (st := [.int v2]) (Nat.le_of_ble_eq_true rfl) rfl (kr_P fun v4 hv4 => ?_) kx_I
  obtain ⟨k4, rfl, hk4⟩ := hv4
  refine J_icmp_eq (pc := 16) (tgt := 32) dX6_signsAgree_16 (by decide) (fun ht5 => ?_) (fun hf6 => ?_)
  · refine J_iconst (pc := 32) (v := nI 1) dX6_signsAgree_32 (by decide) ?_
    refine J_goto (pc := 33) (tgt := 37) dX6_signsAgree_33 (by decide) ?_
    exact J_zret (pc := 37) dX6_signsAgree_37 rfl (nar_b (by omega)) ⟨⟨1, rfl, by omega⟩, rfl⟩
  · refine J_iconst (pc := 19) (v := nI 2) dX6_signsAgree_19 (by decide) ?_
    refine J_iload_n (pc := 20) dX6_signsAgree_20 rfl rfl ?_
    refine J_imul (pc := 21) dX6_signsAgree_21 (J_absI fun x7 => ?_)
    refine J_aload_n (pc := 22) dX6_signsAgree_22 rfl rfl rfl ?_
    refine J_get (pc := 23) (k := 2) dX6_signsAgree_23 kC7 (by decide) ff_X6_23 hc1 rfl ?_
    refine J_callV0 (pc := 26) (as := []) dX6_signsAgree_26 fw_X5_length fl_X6_283 fm_X5_length fe_X5_length hc3 (by decide) rfl rfl rfl (c_X5_length hs (d := d - 1) (by omega) (e := e) (r := r) (q := q) hn1 hn2 hS (w := w)  (kc := 0) (ks := 0)) (by omega) (st := [.int x7]) (Nat.le_of_ble_eq_true rfl) rfl (kr_P fun v8 hv8 => ?_) kx_I
    obtain ⟨k8, rfl, hk8⟩ := hv8
    refine J_icmp_ne (pc := 29) (tgt := 36) dX6_signsAgree_29 (by decide) (fun ht9 => ?_) (fun hf10 => ?_)
    · refine J_iconst (pc := 36) (v := nI 0) dX6_signsAgree_36 (by decide) ?_
      exact J_zret (pc := 37) dX6_signsAgree_37 rfl (nar_b (by omega)) ⟨⟨0, rfl, by omega⟩, rfl⟩
    · refine J_iconst (pc := 32) (v := nI 1) dX6_signsAgree_32 (by decide) ?_
      refine J_goto (pc := 33) (tgt := 37) dX6_signsAgree_33 (by decide) ?_
      exact J_zret (pc := 37) dX6_signsAgree_37 rfl (nar_b (by omega)) ⟨⟨1, rfl, by omega⟩, rfl⟩
set_option maxRecDepth 100000 in
set_option maxHeartbeats 4000000 in
theorem c_X6_colouringsAgree {X : jX} (hs : X.1.stackTraces = false) {d : Nat} (hd : 4 ≤ d) {n : Nat} {e r q : Int32} (hn1 : 2 ≤ n) (hn2 : n ≤ 7) {w : List jC} (hS : SH (rX n e r q) w) {kc ks : Nat} : jMet X mX6_colouringsAgree d kc ks [.ref 0] w (pI (fun v => ∃ k : Nat, v = nI k ∧ k < 2) (fun w' => rS n e r q w w')) := by
  refine jMet_of hs (by decide +kernel) (Nat.le_of_ble_eq_true rfl) (L := [some (.ref 0)]) rfl ?_
  have hG : Fr kX w w := Fr.rf
  refine J_aload_n (pc := 0) dX6_colouringsAgree_0 rfl rfl rfl ?_
  obtain ⟨_, hc1, rfl⟩ := hS 0 _ rfl
  refine J_get (pc := 1) (k := 2) dX6_colouringsAgree_1 kC7 (by decide) ff_X6_23 hc1 rfl ?_
  refine J_iconst (pc := 4) (v := nI 2) dX6_colouringsAgree_4 (by decide) ?_
  obtain ⟨_, hc3, ka3, rfl, hb3_0⟩ := hS 8 _ rfl
  refine J_callV0 (pc := 5) (as := [.int (nI 2)]) dX6_colouringsAgree_5 fw_X5_colouringsByMean fl_X6_202 fm_X5_colouringsByMean fe_X5_colouringsByMean hc3 (by decide) rfl rfl rfl (c_X5_colouringsByMean hs (d := d - 1) (by omega) (e := e) (r := r) (q := q) hn1 hn2 hS (w := w) (nI 2) (kc := 0) (ks := 0)) (by omega) (st := []) (Nat.le_of_ble_eq_true rfl) rfl (kr_P fun v2 hv2 => ?_) kx_I
  refine J_aload_n (pc := 8) dX6_colouringsAgree_8 rfl rfl rfl ?_
  refine J_get (pc := 9) (k := 4) dX6_colouringsAgree_9 kC7 (by decide) ff_X6_37 hc1 rfl ?_
  refine J_aload_n (pc := 12) dX6_colouringsAgree_12 rfl rfl rfl ?_
  refine J_get (pc := 13) (k := 0) dX6_colouringsAgree_13 kC7 (by decide) ff_X6_9 hc1 rfl ?_
  refine J_bipush (pc := 16) (v := nI 63) dX6_colouringsAgree_16 (by decide) ?_
  refine J_iconst (pc := 18) (v := nI 2) dX6_colouringsAgree_18 (by decide) ?_
  refine J_aload_n (pc := 19) dX6_colouringsAgree_19 rfl rfl rfl ?_
  refine J_get (pc := 20) (k := 5) dX6_colouringsAgree_20 kC7 (by decide) ff_X6_41 hc1 rfl ?_
  obtain ⟨_, hc5, ka5, kb5, rfl, hb5_0, hb5_1, hb5_2⟩ := hS 14 _ rfl
  refine J_callV0 (pc := 23) (as := [.ref 1, .int (nI 63), .int (nI 2), .int (nI n)]) dX6_colouringsAgree_23 fw_X3_colouringsOneByOne fl_X6_205 fm_X3_colouringsOneByOne fe_X3_colouringsOneByOne hc5 (by decide) rfl rfl rfl (c_X3_colouringsOneByOne hs (d := d - 1) (by omega) (e := e) (r := r) (q := q) hn1 hn2 hS (w := w) (nI 63) 2 (by omega) (by omega) (kc := 0) (ks := 0)) (by omega) (st := [.int v2]) (Nat.le_of_ble_eq_true rfl) rfl (kr_I fun v4 w4 hv4 hw4 => ?_) kx_I
  obtain ⟨hS4, hF4⟩ := hw4
  have hG4 := hG.tr hF4
  refine J_icmp_ne (pc := 26) (tgt := 33) dX6_colouringsAgree_26 (by decide) (fun ht6 => ?_) (fun hf7 => ?_)
  · refine J_iconst (pc := 33) (v := nI 0) dX6_colouringsAgree_33 (by decide) ?_
    exact J_zret (pc := 34) dX6_colouringsAgree_34 rfl (nar_b (by omega)) ⟨⟨0, rfl, by omega⟩, ⟨hS4, hG4⟩⟩
  · refine J_iconst (pc := 29) (v := nI 1) dX6_colouringsAgree_29 (by decide) ?_
    refine J_goto (pc := 30) (tgt := 34) dX6_colouringsAgree_30 (by decide) ?_
    exact J_zret (pc := 34) dX6_colouringsAgree_34 rfl (nar_b (by omega)) ⟨⟨1, rfl, by omega⟩, ⟨hS4, hG4⟩⟩
set_option maxRecDepth 100000 in
set_option maxHeartbeats 4000000 in
theorem c_X6_enoughSuffices {X : jX} (hs : X.1.stackTraces = false) {d : Nat} (hd : 4 ≤ d) {n : Nat} {e r q : Int32} (hn1 : 2 ≤ n) (hn2 : n ≤ 7) {w : List jC} (hS : SH (rX n e r q) w) {kc ks : Nat} : jMet X mX6_enoughSuffices d kc ks [.ref 0] w (pI (fun v => ∃ k : Nat, v = nI k ∧ k < 2) (fun w' => rS n e r q w w')) := by
  refine jMet_of hs (by decide +kernel) (Nat.le_of_ble_eq_true rfl) (L := [some (.ref 0), none, none]) rfl ?_
  have hG : Fr kX w w := Fr.rf
  refine J_aload_n (pc := 0) dX6_enoughSuffices_0 rfl rfl rfl ?_
  obtain ⟨_, hc1, rfl⟩ := hS 0 _ rfl
  refine J_get (pc := 1) (k := 1) dX6_enoughSuffices_1 kC7 (by decide) ff_X6_16 hc1 rfl ?_
  obtain ⟨_, hc3, ka3, kf3, kb3, kg3, rfl, hb3_0, hb3_1⟩ := hS 2 _ rfl
  refine J_callV0 (pc := 4) (as := []) dX6_enoughSuffices_4 fw_X0_total fl_X6_138 fm_X0_total fe_X0_total hc3 (by decide) rfl rfl rfl (c_X0_total hs (d := d - 1) (by omega) (e := e) (r := r) (q := q) hn1 hn2 hS (w := w)  (kc := 0) (ks := 0)) (by omega) (st := []) (Nat.le_of_ble_eq_true rfl) rfl (kr_P fun v2 hv2 => ?_) kx_I
  refine J_istore_n (pc := 7) dX6_enoughSuffices_7 rfl (by decide) rfl ?_
  show J X mX6_enoughSuffices d kc ks 8 [some (.ref 0), some (.int v2), none] [] w _
  refine J_aload_n (pc := 8) dX6_enoughSuffices_8 rfl rfl rfl ?_
  refine J_get (pc := 9) (k := 1) dX6_enoughSuffices_9 kC7 (by decide) ff_X6_16 hc1 rfl ?_
  refine J_callV0 (pc := 12) (as := []) dX6_enoughSuffices_12 fw_X0_takenCells fl_X6_225 fm_X0_takenCells fe_X0_takenCells hc3 (by decide) rfl rfl rfl (c_X0_takenCells hs (d := d - 1) (by omega) (e := e) (r := r) (q := q) hn1 hn2 hS (w := w)  (kc := 0) (ks := 0)) (by omega) (st := []) (Nat.le_of_ble_eq_true rfl) rfl (kr_P fun v4 hv4 => ?_) kx_I
  refine J_istore_n (pc := 15) dX6_enoughSuffices_15 rfl (by decide) rfl ?_
  show J X mX6_enoughSuffices d kc ks 16 [some (.ref 0), some (.int v2), some (.int v4)] [] w _
  refine J_aload_n (pc := 16) dX6_enoughSuffices_16 rfl rfl rfl ?_
  refine J_get (pc := 17) (k := 1) dX6_enoughSuffices_17 kC7 (by decide) ff_X6_16 hc1 rfl ?_
  refine J_aload_n (pc := 20) dX6_enoughSuffices_20 rfl rfl rfl ?_
  refine J_get (pc := 21) (k := 0) dX6_enoughSuffices_21 kC7 (by decide) ff_X6_9 hc1 rfl ?_
  refine J_iload_n (pc := 24) dX6_enoughSuffices_24 rfl rfl ?_
  refine J_aload_n (pc := 25) dX6_enoughSuffices_25 rfl rfl rfl ?_
  refine J_get (pc := 26) (k := 0) dX6_enoughSuffices_26 kC7 (by decide) ff_X6_9 hc1 rfl ?_
  refine J_iconst (pc := 29) (v := nI 0) dX6_enoughSuffices_29 (by decide) ?_
  obtain ⟨_, hc5, xs5, rfl, hl5⟩ := hS 1 _ rfl
  refine J_iald (pc := 30) dX6_enoughSuffices_30 hc5 (nI_in (by omega) (by omega)) (J_absI fun x6 => ?_)
  refine J_aload_n (pc := 31) dX6_enoughSuffices_31 rfl rfl rfl ?_
  refine J_get (pc := 32) (k := 5) dX6_enoughSuffices_32 kC7 (by decide) ff_X6_41 hc1 rfl ?_
  refine J_callV0 (pc := 35) (as := [.ref 1, .int v4, .int x6, .int (nI n)]) dX6_enoughSuffices_35 fw_X0_raise fl_X6_134 fm_X0_raise fe_X0_raise hc3 (by decide) rfl rfl rfl (c_X0_raise hs (d := d - 1) (by omega) (e := e) (r := r) (q := q) hn1 hn2 hS (w := w) v4 x6 (kc := 0) (ks := 0)) (by omega) (st := []) (Nat.le_of_ble_eq_true rfl) rfl (kr_V fun w7 hw7 => ?_) kx_V
  obtain ⟨hS7, hF7⟩ := hw7
  have hG7 := hG.tr hF7
  refine J_aload_n (pc := 38) dX6_enoughSuffices_38 rfl rfl rfl ?_
  obtain ⟨_, hc8, rfl⟩ := hS7 0 _ rfl
  refine J_get (pc := 39) (k := 1) dX6_enoughSuffices_39 kC7 (by decide) ff_X6_16 hc8 rfl ?_
  obtain ⟨_, hc10, ka10, kf10, kb10, kg10, rfl, hb10_0, hb10_1⟩ := hS7 2 _ rfl
  refine J_callV0 (pc := 42) (as := []) dX6_enoughSuffices_42 fw_X0_total fl_X6_138 fm_X0_total fe_X0_total hc10 (by decide) rfl rfl rfl (c_X0_total hs (d := d - 1) (by omega) (e := e) (r := r) (q := q) hn1 hn2 hS7 (w := w7)  (kc := 0) (ks := 0)) (by omega) (st := []) (Nat.le_of_ble_eq_true rfl) rfl (kr_P fun v9 hv9 => ?_) kx_I
  refine J_iload_n (pc := 45) dX6_enoughSuffices_45 rfl rfl ?_
  refine J_icmp_ne (pc := 46) (tgt := 63) dX6_enoughSuffices_46 (by decide) (fun ht11 => ?_) (fun hf12 => ?_)
  · refine J_iconst (pc := 63) (v := nI 0) dX6_enoughSuffices_63 (by decide) ?_
    exact J_zret (pc := 64) dX6_enoughSuffices_64 rfl (nar_b (by omega)) ⟨⟨0, rfl, by omega⟩, ⟨hS7, hG7⟩⟩
  · refine J_iload_n (pc := 49) dX6_enoughSuffices_49 rfl rfl ?_
    refine J_iconst (pc := 50) (v := nI 1) dX6_enoughSuffices_50 (by decide) ?_
    refine J_iload_n (pc := 51) dX6_enoughSuffices_51 rfl rfl ?_
    refine J_callS0 (pc := 52) (as := [.int v4]) dX6_enoughSuffices_52 fw_J6_bitCount_0f7a4 fl_X6_220 fs_J6_bitCount_0f7a4 rfl (c_J6_bitCount_0f7a4 hs (d := d - 1) (by omega) (w := w7) v4 (kc := 0) (ks := 0)) (by omega) (st := [.int (nI 1), .int v2]) (Nat.le_of_ble_eq_true rfl) rfl (kr_P fun v13 hv13 => ?_) kx_I
    obtain ⟨k13, rfl, hk13⟩ := hv13
    refine J_ishl (pc := 55) dX6_enoughSuffices_55 (J_absI fun x14 => ?_)
    refine J_icmp_lt (pc := 56) (tgt := 63) dX6_enoughSuffices_56 (by decide) (fun ht15 => ?_) (fun hf16 => ?_)
    · refine J_iconst (pc := 63) (v := nI 0) dX6_enoughSuffices_63 (by decide) ?_
      exact J_zret (pc := 64) dX6_enoughSuffices_64 rfl (nar_b (by omega)) ⟨⟨0, rfl, by omega⟩, ⟨hS7, hG7⟩⟩
    · refine J_iconst (pc := 59) (v := nI 1) dX6_enoughSuffices_59 (by decide) ?_
      refine J_goto (pc := 60) (tgt := 64) dX6_enoughSuffices_60 (by decide) ?_
      exact J_zret (pc := 64) dX6_enoughSuffices_64 rfl (nar_b (by omega)) ⟨⟨1, rfl, by omega⟩, ⟨hS7, hG7⟩⟩
