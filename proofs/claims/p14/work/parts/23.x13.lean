/-! contracts of the class -/
set_option maxRecDepth 100000 in
set_option maxHeartbeats 4000000 in
theorem c_X6_blocks {X : jX} (hs : X.1.stackTraces = false) {d : Nat} (hd : 14 ≤ d) {n : Nat} {e r q : Int32} (hn1 : 2 ≤ n) (hn2 : n ≤ 7) {w : List jC} (hS : SH (rX n e r q) w) (p0 : Int32) (p1 : Int32) (p2 : Int32) {kc ks : Nat} (hkc : 3 ≤ kc) (hks : 18 ≤ ks) : jMet X mX6_blocks d kc ks [.ref 0, .int p0, .int p1, .int p2] w (pX (pI (fun _ => True) (fun w' => rS n e r q w w')) (fun E w' => (E = "java/lang/IndexOutOfBoundsException" ∨ E = "java/lang/IllegalArgumentException") ∧ rS n e r q w w')) := by
  refine jMet_of hs (by decide +kernel) (Nat.le_of_ble_eq_true rfl) (L := [some (.ref 0), some (.int p0), some (.int p1), some (.int p2)]) rfl ?_
  have hG : Fr kX w w := Fr.rf
  refine J_aload_n (pc := 0) dX6_blocks_0 rfl rfl rfl ?_
  refine J_iload_n (pc := 1) dX6_blocks_1 rfl rfl ?_
  obtain ⟨_, hc2, rfl⟩ := hS 0 _ rfl
  refine J_callV (pc := 2) (M := mX6_blocks) (as := [.int p1]) dX6_blocks_2 fw_X6_needPoint fl_X6_86 fm_X6_needPoint fe_X6_needPoint hc2 (by decide) rfl rfl rfl (c_X6_needPoint hs (d := d - 1) (by omega) (e := e) (r := r) (q := q) hn1 hn2 hS (w := w) p1 (kc := 1) (ks := 6) (Nat.le_refl _) (Nat.le_refl _)) (by omega) (by omega) (by omega) (st := []) (Nat.le_of_ble_eq_true rfl) rfl (kr_X (kr_V fun w1 hw1 => ?_)) (kx_X fun E1 w1 hx1 => ?_)
  · obtain ⟨hq1, hp1⟩ := hw1
    obtain rfl := hq1.symm
    obtain ⟨b1, hb1, rfl⟩ := hp1
    refine J_aload_n (pc := 5) dX6_blocks_5 rfl rfl rfl ?_
    refine J_iload_n (pc := 6) dX6_blocks_6 rfl rfl ?_
    refine J_callV (pc := 7) (M := mX6_blocks) (as := [.int p2]) dX6_blocks_7 fw_X6_needPoint fl_X6_86 fm_X6_needPoint fe_X6_needPoint hc2 (by decide) rfl rfl rfl (c_X6_needPoint hs (d := d - 1) (by omega) (e := e) (r := r) (q := q) hn1 hn2 hS (w := w) p2 (kc := 1) (ks := 6) (Nat.le_refl _) (Nat.le_refl _)) (by omega) (by omega) (by omega) (st := []) (Nat.le_of_ble_eq_true rfl) rfl (kr_X (kr_V fun w3 hw3 => ?_)) (kx_X fun E3 w3 hx3 => ?_)
    · obtain ⟨hq3, hp3⟩ := hw3
      obtain rfl := hq3.symm
      obtain ⟨b3, hb3, rfl⟩ := hp3
      refine J_iload_n (pc := 10) dX6_blocks_10 rfl rfl ?_
      refine J_callS (pc := 11) (M := mX6_blocks) (as := [.int p0]) dX6_blocks_11 fw_X6_needSet fl_X6_131 fs_X6_needSet rfl (c_X6_needSet hs (d := d - 1) (by omega) (w := w) p0 (kc := 1) (ks := 6) (Nat.le_refl _) (Nat.le_refl _)) (by omega) (by omega) (by omega) (st := []) (Nat.le_of_ble_eq_true rfl) rfl (kr_X (kr_V fun w4 hw4 => ?_)) (kx_X fun E4 w4 hx4 => ?_)
      · obtain rfl := hw4.symm
        refine J_aload_n (pc := 14) dX6_blocks_14 rfl rfl rfl ?_
        refine J_get (pc := 15) (k := 3) dX6_blocks_15 kC7 (by decide) ff_X6_30 hc2 rfl ?_
        refine J_aload_n (pc := 18) dX6_blocks_18 rfl rfl rfl ?_
        refine J_get (pc := 19) (k := 0) dX6_blocks_19 kC7 (by decide) ff_X6_9 hc2 rfl ?_
        refine J_iload_n (pc := 22) dX6_blocks_22 rfl rfl ?_
        refine J_iload_n (pc := 23) dX6_blocks_23 rfl rfl ?_
        refine J_iload_n (pc := 24) dX6_blocks_24 rfl rfl ?_
        refine J_aload_n (pc := 25) dX6_blocks_25 rfl rfl rfl ?_
        refine J_get (pc := 26) (k := 5) dX6_blocks_26 kC7 (by decide) ff_X6_41 hc2 rfl ?_
        obtain ⟨_, hc6, ka6, rfl, hb6_0⟩ := hS 12 _ rfl
        refine J_callV0 (pc := 29) (M := mX6_blocks) (as := [.ref 1, .int p0, .int (nI b1), .int (nI b3), .int (nI n)]) dX6_blocks_29 fw_X4_joinBlocks fl_X6_216 fm_X4_joinBlocks fe_X4_joinBlocks hc6 (by decide) rfl rfl rfl (c_X4_joinBlocks hs (d := d - 1) (by omega) (e := e) (r := r) (q := q) hn1 hn2 hS (w := w) p0 b1 b3 (by omega) (by omega) (kc := 0) (ks := 0)) (by omega) (st := []) (Nat.le_of_ble_eq_true rfl) rfl (kr_V fun w5 hw5 => ?_) kx_V
        obtain ⟨hS5, hF5⟩ := hw5
        have hG5 := hG.tr hF5
        refine J_aload_n (pc := 32) dX6_blocks_32 rfl rfl rfl ?_
        obtain ⟨_, hc7, rfl⟩ := hS5 0 _ rfl
        refine J_get (pc := 33) (k := 3) dX6_blocks_33 kC7 (by decide) ff_X6_30 hc7 rfl ?_
        obtain ⟨_, hc9, ka9, rfl, hb9_0⟩ := hS5 12 _ rfl
        refine J_callV0 (pc := 36) (M := mX6_blocks) (as := []) dX6_blocks_36 fw_X4_parts fl_X6_193 fm_X4_parts fe_X4_parts hc9 (by decide) rfl rfl rfl (c_X4_parts hs (d := d - 1) (by omega) (e := e) (r := r) (q := q) hn1 hn2 hS5 (w := w5)  (kc := 0) (ks := 0)) (by omega) (st := []) (Nat.le_of_ble_eq_true rfl) rfl (kr_P fun v8 hv8 => ?_) kx_I
        exact J_iret (pc := 39) dX6_blocks_39 rfl ⟨trivial, ⟨hS5, hG5⟩⟩
      · exact JX_out (fun _ h => nomatch h) (by obtain ⟨h1, h2⟩ := hx4; exact ⟨Or.inr h1, by subst h2; exact ⟨hS.push, hG.tr Fr.push⟩⟩)
    · exact JX_out (fun _ h => nomatch h) (by obtain ⟨h1, h2⟩ := hx3; exact ⟨Or.inl h1, by subst h2; exact ⟨hS.push, hG.tr Fr.push⟩⟩)
  · exact JX_out (fun _ h => nomatch h) (by obtain ⟨h1, h2⟩ := hx1; exact ⟨Or.inl h1, by subst h2; exact ⟨hS.push, hG.tr Fr.push⟩⟩)
set_option maxRecDepth 100000 in
set_option maxHeartbeats 4000000 in
theorem c_X6_isTwofold {X : jX} (hs : X.1.stackTraces = false) {d : Nat} (hd : 14 ≤ d) {n : Nat} {e r q : Int32} (hn1 : 2 ≤ n) (hn2 : n ≤ 7) {w : List jC} (hS : SH (rX n e r q) w) (p0 : Int32) {kc ks : Nat} (hkc : 1 ≤ kc) (hks : 6 ≤ ks) : jMet X mX6_isTwofold d kc ks [.ref 0, .int p0] w (pX (pI (fun v => ∃ k : Nat, v = nI k ∧ k < 2) (fun w' => rS n e r q w w')) (fun E w' => (E = "java/lang/IllegalArgumentException") ∧ rS n e r q w w')) := by
  refine jMet_of hs (by decide +kernel) (Nat.le_of_ble_eq_true rfl) (L := [some (.ref 0), some (.int p0)]) rfl ?_
  have hG : Fr kX w w := Fr.rf
  refine J_iload_n (pc := 0) dX6_isTwofold_0 rfl rfl ?_
  refine J_callS (pc := 1) (M := mX6_isTwofold) (as := [.int p0]) dX6_isTwofold_1 fw_X6_needSet fl_X6_131 fs_X6_needSet rfl (c_X6_needSet hs (d := d - 1) (by omega) (w := w) p0 (kc := 1) (ks := 6) (Nat.le_refl _) (Nat.le_refl _)) (by omega) (by omega) (by omega) (st := []) (Nat.le_of_ble_eq_true rfl) rfl (kr_X (kr_V fun w1 hw1 => ?_)) (kx_X fun E1 w1 hx1 => ?_)
  · obtain rfl := hw1.symm
    refine J_aload_n (pc := 4) dX6_isTwofold_4 rfl rfl rfl ?_
    obtain ⟨_, hc2, rfl⟩ := hS 0 _ rfl
    refine J_get (pc := 5) (k := 1) dX6_isTwofold_5 kC7 (by decide) ff_X6_16 hc2 rfl ?_
    refine J_aload_n (pc := 8) dX6_isTwofold_8 rfl rfl rfl ?_
    refine J_get (pc := 9) (k := 0) dX6_isTwofold_9 kC7 (by decide) ff_X6_9 hc2 rfl ?_
    refine J_iload_n (pc := 12) dX6_isTwofold_12 rfl rfl ?_
    refine J_ldc (pc := 13) (v := nI 1754760) dX6_isTwofold_13 (by have := fk_X6_56; exact this) ?_
    refine J_aload_n (pc := 15) dX6_isTwofold_15 rfl rfl rfl ?_
    refine J_get (pc := 16) (k := 5) dX6_isTwofold_16 kC7 (by decide) ff_X6_41 hc2 rfl ?_
    obtain ⟨_, hc4, ka4, kf4, kb4, kg4, rfl, hb4_0, hb4_1⟩ := hS 2 _ rfl
    refine J_callV0 (pc := 19) (M := mX6_isTwofold) (as := [.ref 1, .int p0, .int (nI 1754760), .int (nI n)]) dX6_isTwofold_19 fw_X0_raise fl_X6_134 fm_X0_raise fe_X0_raise hc4 (by decide) rfl rfl rfl (c_X0_raise hs (d := d - 1) (by omega) (e := e) (r := r) (q := q) hn1 hn2 hS (w := w) p0 (nI 1754760) (kc := 0) (ks := 0)) (by omega) (st := []) (Nat.le_of_ble_eq_true rfl) rfl (kr_V fun w3 hw3 => ?_) kx_V
    obtain ⟨hS3, hF3⟩ := hw3
    have hG3 := hG.tr hF3
    refine J_aload_n (pc := 22) dX6_isTwofold_22 rfl rfl rfl ?_
    obtain ⟨_, hc5, rfl⟩ := hS3 0 _ rfl
    refine J_get (pc := 23) (k := 1) dX6_isTwofold_23 kC7 (by decide) ff_X6_16 hc5 rfl ?_
    refine J_iconst (pc := 26) (v := nI 0) dX6_isTwofold_26 (by decide) ?_
    obtain ⟨_, hc7, ka7, kf7, kb7, kg7, rfl, hb7_0, hb7_1⟩ := hS3 2 _ rfl
    refine J_callV0 (pc := 27) (M := mX6_isTwofold) (as := [.int (nI 0)]) dX6_isTwofold_27 fw_X0_reachAt fl_X6_170 fm_X0_reachAt fe_X0_reachAt hc7 (by decide) rfl rfl rfl (c_X0_reachAt hs (d := d - 1) (by omega) (e := e) (r := r) (q := q) hn1 hn2 hS3 (w := w3) (nI 0) (kc := 0) (ks := 0)) (by omega) (st := []) (Nat.le_of_ble_eq_true rfl) rfl (kr_P fun v6 hv6 => ?_) kx_I
    refine J_callS0 (pc := 30) (M := mX6_isTwofold) (as := [.int v6]) dX6_isTwofold_30 fw_J6_bitCount_0f7a4 fl_X6_220 fs_J6_bitCount_0f7a4 rfl (c_J6_bitCount_0f7a4 hs (d := d - 1) (by omega) (w := w3) v6 (kc := 0) (ks := 0)) (by omega) (st := []) (Nat.le_of_ble_eq_true rfl) rfl (kr_P fun v8 hv8 => ?_) kx_I
    obtain ⟨k8, rfl, hk8⟩ := hv8
    refine J_aload_n (pc := 33) dX6_isTwofold_33 rfl rfl rfl ?_
    refine J_get (pc := 34) (k := 5) dX6_isTwofold_34 kC7 (by decide) ff_X6_41 hc5 rfl ?_
    refine J_icmp_neN (pc := 37) (tgt := 64) dX6_isTwofold_37 (by decide) (by omega) (by omega) (fun ht9 => ?_) (fun hf10 => ?_)
    · refine J_iconst (pc := 64) (v := nI 0) dX6_isTwofold_64 (by decide) ?_
      exact J_zret (pc := 65) dX6_isTwofold_65 rfl (nar_b (by omega)) ⟨⟨0, rfl, by omega⟩, ⟨hS3, hG3⟩⟩
    · refine J_aload_n (pc := 40) dX6_isTwofold_40 rfl rfl rfl ?_
      refine J_get (pc := 41) (k := 1) dX6_isTwofold_41 kC7 (by decide) ff_X6_16 hc5 rfl ?_
      refine J_iconst (pc := 44) (v := nI 1) dX6_isTwofold_44 (by decide) ?_
      refine J_callV0 (pc := 45) (M := mX6_isTwofold) (as := [.int (nI 1)]) dX6_isTwofold_45 fw_X0_reachAt fl_X6_170 fm_X0_reachAt fe_X0_reachAt hc7 (by decide) rfl rfl rfl (c_X0_reachAt hs (d := d - 1) (by omega) (e := e) (r := r) (q := q) hn1 hn2 hS3 (w := w3) (nI 1) (kc := 0) (ks := 0)) (by omega) (st := []) (Nat.le_of_ble_eq_true rfl) rfl (kr_P fun v11 hv11 => ?_) kx_I
      refine J_callS0 (pc := 48) (M := mX6_isTwofold) (as := [.int v11]) dX6_isTwofold_48 fw_J6_bitCount_0f7a4 fl_X6_220 fs_J6_bitCount_0f7a4 rfl (c_J6_bitCount_0f7a4 hs (d := d - 1) (by omega) (w := w3) v11 (kc := 0) (ks := 0)) (by omega) (st := []) (Nat.le_of_ble_eq_true rfl) rfl (kr_P fun v12 hv12 => ?_) kx_I
      obtain ⟨k12, rfl, hk12⟩ := hv12
      refine J_aload_n (pc := 51) dX6_isTwofold_51 rfl rfl rfl ?_
      refine J_get (pc := 52) (k := 5) dX6_isTwofold_52 kC7 (by decide) ff_X6_41 hc5 rfl ?_
      refine J_iconst (pc := 55) (v := nI 1) dX6_isTwofold_55 (by decide) ?_
      refine J_isubN (pc := 56) dX6_isTwofold_56 (by omega) ?_
      refine J_icmp_neN (pc := 57) (tgt := 64) dX6_isTwofold_57 (by decide) (by omega) (by omega) (fun ht13 => ?_) (fun hf14 => ?_)
      · refine J_iconst (pc := 64) (v := nI 0) dX6_isTwofold_64 (by decide) ?_
        exact J_zret (pc := 65) dX6_isTwofold_65 rfl (nar_b (by omega)) ⟨⟨0, rfl, by omega⟩, ⟨hS3, hG3⟩⟩
      · refine J_iconst (pc := 60) (v := nI 1) dX6_isTwofold_60 (by decide) ?_
        refine J_goto (pc := 61) (tgt := 65) dX6_isTwofold_61 (by decide) ?_
        exact J_zret (pc := 65) dX6_isTwofold_65 rfl (nar_b (by omega)) ⟨⟨1, rfl, by omega⟩, ⟨hS3, hG3⟩⟩
  · exact JX_out (fun _ h => nomatch h) (by obtain ⟨h1, h2⟩ := hx1; exact ⟨h1, by subst h2; exact ⟨hS.push, hG.tr Fr.push⟩⟩)
set_option maxRecDepth 100000 in
set_option maxHeartbeats 4000000 in
theorem c_X6_enough {X : jX} (hs : X.1.stackTraces = false) {d : Nat} (hd : 14 ≤ d) {n : Nat} {e r q : Int32} (hn1 : 2 ≤ n) (hn2 : n ≤ 7) {w : List jC} (hS : SH (rX n e r q) w) (p0 : Int32) {kc ks : Nat} (hkc : 1 ≤ kc) (hks : 6 ≤ ks) : jMet X mX6_enough d kc ks [.ref 0, .int p0] w (pX (pI (fun _ => True) (fun w' => rS n e r q w w')) (fun E w' => (E = "java/lang/IllegalArgumentException") ∧ rS n e r q w w')) := by
  refine jMet_of hs (by decide +kernel) (Nat.le_of_ble_eq_true rfl) (L := [some (.ref 0), some (.int p0)]) rfl ?_
  have hG : Fr kX w w := Fr.rf
  refine J_iload_n (pc := 0) dX6_enough_0 rfl rfl ?_
  refine J_callS (pc := 1) (M := mX6_enough) (as := [.int p0]) dX6_enough_1 fw_X6_needSet fl_X6_131 fs_X6_needSet rfl (c_X6_needSet hs (d := d - 1) (by omega) (w := w) p0 (kc := 1) (ks := 6) (Nat.le_refl _) (Nat.le_refl _)) (by omega) (by omega) (by omega) (st := []) (Nat.le_of_ble_eq_true rfl) rfl (kr_X (kr_V fun w1 hw1 => ?_)) (kx_X fun E1 w1 hx1 => ?_)
  · obtain rfl := hw1.symm
    refine J_aload_n (pc := 4) dX6_enough_4 rfl rfl rfl ?_
    obtain ⟨_, hc2, rfl⟩ := hS 0 _ rfl
    refine J_get (pc := 5) (k := 1) dX6_enough_5 kC7 (by decide) ff_X6_16 hc2 rfl ?_
    refine J_aload_n (pc := 8) dX6_enough_8 rfl rfl rfl ?_
    refine J_get (pc := 9) (k := 0) dX6_enough_9 kC7 (by decide) ff_X6_9 hc2 rfl ?_
    refine J_iload_n (pc := 12) dX6_enough_12 rfl rfl ?_
    refine J_ldc (pc := 13) (v := nI 1754760) dX6_enough_13 (by have := fk_X6_56; exact this) ?_
    refine J_aload_n (pc := 15) dX6_enough_15 rfl rfl rfl ?_
    refine J_get (pc := 16) (k := 5) dX6_enough_16 kC7 (by decide) ff_X6_41 hc2 rfl ?_
    obtain ⟨_, hc4, ka4, kf4, kb4, kg4, rfl, hb4_0, hb4_1⟩ := hS 2 _ rfl
    refine J_callV0 (pc := 19) (M := mX6_enough) (as := [.ref 1, .int p0, .int (nI 1754760), .int (nI n)]) dX6_enough_19 fw_X0_raise fl_X6_134 fm_X0_raise fe_X0_raise hc4 (by decide) rfl rfl rfl (c_X0_raise hs (d := d - 1) (by omega) (e := e) (r := r) (q := q) hn1 hn2 hS (w := w) p0 (nI 1754760) (kc := 0) (ks := 0)) (by omega) (st := []) (Nat.le_of_ble_eq_true rfl) rfl (kr_V fun w3 hw3 => ?_) kx_V
    obtain ⟨hS3, hF3⟩ := hw3
    have hG3 := hG.tr hF3
    refine J_aload_n (pc := 22) dX6_enough_22 rfl rfl rfl ?_
    obtain ⟨_, hc5, rfl⟩ := hS3 0 _ rfl
    refine J_get (pc := 23) (k := 1) dX6_enough_23 kC7 (by decide) ff_X6_16 hc5 rfl ?_
    obtain ⟨_, hc7, ka7, kf7, kb7, kg7, rfl, hb7_0, hb7_1⟩ := hS3 2 _ rfl
    refine J_callV0 (pc := 26) (M := mX6_enough) (as := []) dX6_enough_26 fw_X0_takenCells fl_X6_225 fm_X0_takenCells fe_X0_takenCells hc7 (by decide) rfl rfl rfl (c_X0_takenCells hs (d := d - 1) (by omega) (e := e) (r := r) (q := q) hn1 hn2 hS3 (w := w3)  (kc := 0) (ks := 0)) (by omega) (st := []) (Nat.le_of_ble_eq_true rfl) rfl (kr_P fun v6 hv6 => ?_) kx_I
    exact J_iret (pc := 29) dX6_enough_29 rfl ⟨trivial, ⟨hS3, hG3⟩⟩
  · exact JX_out (fun _ h => nomatch h) (by obtain ⟨h1, h2⟩ := hx1; exact ⟨h1, by subst h2; exact ⟨hS.push, hG.tr Fr.push⟩⟩)
