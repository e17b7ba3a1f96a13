/-! contracts of the class -/
set_option maxRecDepth 100000 in
set_option maxHeartbeats 4000000 in
theorem c_X6_rank {X : jX} (hs : X.1.stackTraces = false) {d : Nat} (hd : 14 ≤ d) {n : Nat} {e r q : Int32} (hn1 : 2 ≤ n) (hn2 : n ≤ 7) {w : List jC} (hS : SH (rX n e r q) w) (p0 : Int32) (p1 : Int32) (p2 : Int32) {kc ks : Nat} (hkc : 3 ≤ kc) (hks : 18 ≤ ks) : jMet X mX6_rank d kc ks [.ref 0, .int p0, .int p1, .int p2] w (pX (pI (fun _ => True) (fun w' => rS n e r q w w')) (fun E w' => (E = "java/lang/IndexOutOfBoundsException" ∨ E = "java/lang/IllegalArgumentException") ∧ rS n e r q w w')) := by
  refine jMet_of hs (by decide +kernel) (Nat.le_of_ble_eq_true rfl) (L := [some (.ref 0), some (.int p0), some (.int p1), some (.int p2)]) rfl ?_
  have hG : Fr kX w w := Fr.rf
  refine J_iload_n (pc := 0) dX6_rank_0 rfl rfl ?_
  refine J_callS (pc := 1) (as := [.int p1]) dX6_rank_1 fw_X6_needCell fl_X6_67 fs_X6_needCell rfl (c_X6_needCell hs (d := d - 1) (by omega) (w := w) p1 (kc := 1) (ks := 6) (Nat.le_refl _) (Nat.le_refl _)) (by omega) (by omega) (by omega) (st := []) (Nat.le_of_ble_eq_true rfl) rfl (kr_X (kr_V fun w1 hw1 => ?_)) (kx_X fun E1 w1 hx1 => ?_)
  · obtain ⟨rfl, hp1⟩ := hw1
    obtain ⟨b1, hb1, rfl⟩ := hp1
    refine J_iload_n (pc := 4) dX6_rank_4 rfl rfl ?_
    refine J_callS (pc := 5) (as := [.int p2]) dX6_rank_5 fw_X6_needCell fl_X6_67 fs_X6_needCell rfl (c_X6_needCell hs (d := d - 1) (by omega) (w := w) p2 (kc := 1) (ks := 6) (Nat.le_refl _) (Nat.le_refl _)) (by omega) (by omega) (by omega) (st := []) (Nat.le_of_ble_eq_true rfl) rfl (kr_X (kr_V fun w2 hw2 => ?_)) (kx_X fun E2 w2 hx2 => ?_)
    · obtain ⟨rfl, hp2⟩ := hw2
      obtain ⟨b2, hb2, rfl⟩ := hp2
      refine J_iload_n (pc := 8) dX6_rank_8 rfl rfl ?_
      refine J_callS (pc := 9) (as := [.int p0]) dX6_rank_9 fw_X6_needSet fl_X6_131 fs_X6_needSet rfl (c_X6_needSet hs (d := d - 1) (by omega) (w := w) p0 (kc := 1) (ks := 6) (Nat.le_refl _) (Nat.le_refl _)) (by omega) (by omega) (by omega) (st := []) (Nat.le_of_ble_eq_true rfl) rfl (kr_X (kr_V fun w3 hw3 => ?_)) (kx_X fun E3 w3 hx3 => ?_)
      · subst hw3
        refine J_aload_n (pc := 12) dX6_rank_12 rfl rfl rfl ?_
        obtain ⟨_, hc4, rfl⟩ := hS 0 _ rfl
        refine J_get (pc := 13) (k := 1) dX6_rank_13 kC7 (by decide) ff_X6_16 hc4 rfl ?_
        refine J_aload_n (pc := 16) dX6_rank_16 rfl rfl rfl ?_
        refine J_get (pc := 17) (k := 0) dX6_rank_17 kC7 (by decide) ff_X6_9 hc4 rfl ?_
        refine J_iload_n (pc := 20) dX6_rank_20 rfl rfl ?_
        refine J_aload_n (pc := 21) dX6_rank_21 rfl rfl rfl ?_
        refine J_get (pc := 22) (k := 0) dX6_rank_22 kC7 (by decide) ff_X6_9 hc4 rfl ?_
        refine J_iload_n (pc := 25) dX6_rank_25 rfl rfl ?_
        obtain ⟨_, hc5, xs5, rfl, hl5⟩ := hS 1 _ rfl
        refine J_iald (pc := 26) dX6_rank_26 hc5 (nI_in (by omega) (by omega)) (J_absI fun x6 => ?_)
        refine J_aload_n (pc := 27) dX6_rank_27 rfl rfl rfl ?_
        refine J_get (pc := 28) (k := 5) dX6_rank_28 kC7 (by decide) ff_X6_41 hc4 rfl ?_
        obtain ⟨_, hc8, ka8, kf8, kb8, kg8, rfl, hb8_0, hb8_1⟩ := hS 2 _ rfl
        refine J_callV0 (pc := 31) (as := [.ref 1, .int p0, .int x6, .int (nI n)]) dX6_rank_31 fw_X0_raise fl_X6_134 fm_X0_raise fe_X0_raise hc8 (by decide) rfl rfl rfl (c_X0_raise hs (d := d - 1) (by omega) (e := e) (r := r) (q := q) hn1 hn2 hS (w := w) p0 x6 (kc := 0) (ks := 0)) (by omega) (st := []) (Nat.le_of_ble_eq_true rfl) rfl (kr_V fun w7 hw7 => ?_) kx_V
        obtain ⟨hS7, hF7⟩ := hw7
        have hG7 := hG.tr hF7
        refine J_aload_n (pc := 34) dX6_rank_34 rfl rfl rfl ?_
        obtain ⟨_, hc9, rfl⟩ := hS7 0 _ rfl
        refine J_get (pc := 35) (k := 1) dX6_rank_35 kC7 (by decide) ff_X6_16 hc9 rfl ?_
        refine J_aload_n (pc := 38) dX6_rank_38 rfl rfl rfl ?_
        refine J_get (pc := 39) (k := 0) dX6_rank_39 kC7 (by decide) ff_X6_9 hc9 rfl ?_
        refine J_iload_n (pc := 42) dX6_rank_42 rfl rfl ?_
        obtain ⟨_, hc10, xs10, rfl, hl10⟩ := hS7 1 _ rfl
        refine J_iald (pc := 43) dX6_rank_43 hc10 (nI_in (by omega) (by omega)) (J_absI fun x11 => ?_)
        obtain ⟨_, hc13, ka13, kf13, kb13, kg13, rfl, hb13_0, hb13_1⟩ := hS7 2 _ rfl
        refine J_callV0 (pc := 44) (as := [.int x11]) dX6_rank_44 fw_X0_rankOf fl_X6_184 fm_X0_rankOf fe_X0_rankOf hc13 (by decide) rfl rfl rfl (c_X0_rankOf hs (d := d - 1) (by omega) (e := e) (r := r) (q := q) hn1 hn2 hS7 (w := w7) x11 (kc := 0) (ks := 0)) (by omega) (st := []) (Nat.le_of_ble_eq_true rfl) rfl (kr_P fun v12 hv12 => ?_) kx_I
        exact J_iret (pc := 47) dX6_rank_47 rfl ⟨trivial, ⟨hS7, hG7⟩⟩
      · exact JX_out (fun _ h => nomatch h) (by obtain ⟨h1, h2⟩ := hx3; exact ⟨Or.inr h1, by subst h2; exact ⟨hS.push, hG.tr Fr.push⟩⟩)
    · exact JX_out (fun _ h => nomatch h) (by obtain ⟨h1, h2⟩ := hx2; exact ⟨Or.inl h1, by subst h2; exact ⟨hS.push, hG.tr Fr.push⟩⟩)
  · exact JX_out (fun _ h => nomatch h) (by obtain ⟨h1, h2⟩ := hx1; exact ⟨Or.inl h1, by subst h2; exact ⟨hS.push, hG.tr Fr.push⟩⟩)
set_option maxRecDepth 100000 in
set_option maxHeartbeats 4000000 in
theorem c_X6_comes {X : jX} (hs : X.1.stackTraces = false) {d : Nat} (hd : 14 ≤ d) {n : Nat} {e r q : Int32} (hn1 : 2 ≤ n) (hn2 : n ≤ 7) {w : List jC} (hS : SH (rX n e r q) w) (p0 : Int32) (p1 : Int32) {kc ks : Nat} (hkc : 2 ≤ kc) (hks : 12 ≤ ks) : jMet X mX6_comes d kc ks [.ref 0, .int p0, .int p1] w (pX (pI (fun _ => True) (fun w' => rS n e r q w w')) (fun E w' => (E = "java/lang/IndexOutOfBoundsException" ∨ E = "java/lang/IllegalArgumentException") ∧ rS n e r q w w')) := by
  refine jMet_of hs (by decide +kernel) (Nat.le_of_ble_eq_true rfl) (L := [some (.ref 0), some (.int p0), some (.int p1)]) rfl ?_
  have hG : Fr kX w w := Fr.rf
  refine J_aload_n (pc := 0) dX6_comes_0 rfl rfl rfl ?_
  refine J_iload_n (pc := 1) dX6_comes_1 rfl rfl ?_
  obtain ⟨_, hc2, rfl⟩ := hS 0 _ rfl
  refine J_callV (pc := 2) (as := [.int p1]) dX6_comes_2 fw_X6_needPoint fl_X6_86 fm_X6_needPoint fe_X6_needPoint hc2 (by decide) rfl rfl rfl (c_X6_needPoint hs (d := d - 1) (by omega) (e := e) (r := r) (q := q) hn1 hn2 hS (w := w) p1 (kc := 1) (ks := 6) (Nat.le_refl _) (Nat.le_refl _)) (by omega) (by omega) (by omega) (st := []) (Nat.le_of_ble_eq_true rfl) rfl (kr_X (kr_V fun w1 hw1 => ?_)) (kx_X fun E1 w1 hx1 => ?_)
  · obtain ⟨rfl, hp1⟩ := hw1
    obtain ⟨b1, hb1, rfl⟩ := hp1
    refine J_iload_n (pc := 5) dX6_comes_5 rfl rfl ?_
    refine J_callS (pc := 6) (as := [.int p0]) dX6_comes_6 fw_X6_needSet fl_X6_131 fs_X6_needSet rfl (c_X6_needSet hs (d := d - 1) (by omega) (w := w) p0 (kc := 1) (ks := 6) (Nat.le_refl _) (Nat.le_refl _)) (by omega) (by omega) (by omega) (st := []) (Nat.le_of_ble_eq_true rfl) rfl (kr_X (kr_V fun w3 hw3 => ?_)) (kx_X fun E3 w3 hx3 => ?_)
    · subst hw3
      refine J_aload_n (pc := 9) dX6_comes_9 rfl rfl rfl ?_
      refine J_get (pc := 10) (k := 3) dX6_comes_10 kC7 (by decide) ff_X6_30 hc2 rfl ?_
      refine J_aload_n (pc := 13) dX6_comes_13 rfl rfl rfl ?_
      refine J_get (pc := 14) (k := 0) dX6_comes_14 kC7 (by decide) ff_X6_9 hc2 rfl ?_
      refine J_iload_n (pc := 17) dX6_comes_17 rfl rfl ?_
      refine J_aload_n (pc := 18) dX6_comes_18 rfl rfl rfl ?_
      refine J_get (pc := 19) (k := 5) dX6_comes_19 kC7 (by decide) ff_X6_41 hc2 rfl ?_
      obtain ⟨_, hc5, ka5, rfl, hb5_0⟩ := hS 12 _ rfl
      refine J_callV0 (pc := 22) (as := [.ref 1, .int p0, .int (nI n)]) dX6_comes_22 fw_X4_joinComing fl_X6_187 fm_X4_joinComing fe_X4_joinComing hc5 (by decide) rfl rfl rfl (c_X4_joinComing hs (d := d - 1) (by omega) (e := e) (r := r) (q := q) hn1 hn2 hS (w := w) p0 (kc := 0) (ks := 0)) (by omega) (st := []) (Nat.le_of_ble_eq_true rfl) rfl (kr_V fun w4 hw4 => ?_) kx_V
      obtain ⟨hS4, hF4⟩ := hw4
      have hG4 := hG.tr hF4
      refine J_aload_n (pc := 25) dX6_comes_25 rfl rfl rfl ?_
      obtain ⟨_, hc6, rfl⟩ := hS4 0 _ rfl
      refine J_get (pc := 26) (k := 3) dX6_comes_26 kC7 (by decide) ff_X6_30 hc6 rfl ?_
      refine J_iload_n (pc := 29) dX6_comes_29 rfl rfl ?_
      obtain ⟨_, hc8, ka8, rfl, hb8_0⟩ := hS4 12 _ rfl
      refine J_callV0 (pc := 30) (as := [.int (nI b1)]) dX6_comes_30 fw_X4_partWith fl_X6_190 fm_X4_partWith fe_X4_partWith hc8 (by decide) rfl rfl rfl (c_X4_partWith hs (d := d - 1) (by omega) (e := e) (r := r) (q := q) hn1 hn2 hS4 (w := w4) (nI b1) (kc := 0) (ks := 0)) (by omega) (st := []) (Nat.le_of_ble_eq_true rfl) rfl (kr_P fun v7 hv7 => ?_) kx_I
      exact J_iret (pc := 33) dX6_comes_33 rfl ⟨trivial, ⟨hS4, hG4⟩⟩
    · exact JX_out (fun _ h => nomatch h) (by obtain ⟨h1, h2⟩ := hx3; exact ⟨Or.inr h1, by subst h2; exact ⟨hS.push, hG.tr Fr.push⟩⟩)
  · exact JX_out (fun _ h => nomatch h) (by obtain ⟨h1, h2⟩ := hx1; exact ⟨Or.inl h1, by subst h2; exact ⟨hS.push, hG.tr Fr.push⟩⟩)
set_option maxRecDepth 100000 in
set_option maxHeartbeats 4000000 in
theorem c_X6_pieces {X : jX} (hs : X.1.stackTraces = false) {d : Nat} (hd : 14 ≤ d) {n : Nat} {e r q : Int32} (hn1 : 2 ≤ n) (hn2 : n ≤ 7) {w : List jC} (hS : SH (rX n e r q) w) (p0 : Int32) {kc ks : Nat} (hkc : 1 ≤ kc) (hks : 6 ≤ ks) : jMet X mX6_pieces d kc ks [.ref 0, .int p0] w (pX (pI (fun _ => True) (fun w' => rS n e r q w w')) (fun E w' => (E = "java/lang/IllegalArgumentException") ∧ rS n e r q w w')) := by
  refine jMet_of hs (by decide +kernel) (Nat.le_of_ble_eq_true rfl) (L := [some (.ref 0), some (.int p0)]) rfl ?_
  have hG : Fr kX w w := Fr.rf
  refine J_iload_n (pc := 0) dX6_pieces_0 rfl rfl ?_
  refine J_callS (pc := 1) (as := [.int p0]) dX6_pieces_1 fw_X6_needSet fl_X6_131 fs_X6_needSet rfl (c_X6_needSet hs (d := d - 1) (by omega) (w := w) p0 (kc := 1) (ks := 6) (Nat.le_refl _) (Nat.le_refl _)) (by omega) (by omega) (by omega) (st := []) (Nat.le_of_ble_eq_true rfl) rfl (kr_X (kr_V fun w1 hw1 => ?_)) (kx_X fun E1 w1 hx1 => ?_)
  · subst hw1
    refine J_aload_n (pc := 4) dX6_pieces_4 rfl rfl rfl ?_
    obtain ⟨_, hc2, rfl⟩ := hS 0 _ rfl
    refine J_get (pc := 5) (k := 3) dX6_pieces_5 kC7 (by decide) ff_X6_30 hc2 rfl ?_
    refine J_aload_n (pc := 8) dX6_pieces_8 rfl rfl rfl ?_
    refine J_get (pc := 9) (k := 0) dX6_pieces_9 kC7 (by decide) ff_X6_9 hc2 rfl ?_
    refine J_iload_n (pc := 12) dX6_pieces_12 rfl rfl ?_
    refine J_aload_n (pc := 13) dX6_pieces_13 rfl rfl rfl ?_
    refine J_get (pc := 14) (k := 5) dX6_pieces_14 kC7 (by decide) ff_X6_41 hc2 rfl ?_
    obtain ⟨_, hc4, ka4, rfl, hb4_0⟩ := hS 12 _ rfl
    refine J_callV0 (pc := 17) (as := [.ref 1, .int p0, .int (nI n)]) dX6_pieces_17 fw_X4_joinComing fl_X6_187 fm_X4_joinComing fe_X4_joinComing hc4 (by decide) rfl rfl rfl (c_X4_joinComing hs (d := d - 1) (by omega) (e := e) (r := r) (q := q) hn1 hn2 hS (w := w) p0 (kc := 0) (ks := 0)) (by omega) (st := []) (Nat.le_of_ble_eq_true rfl) rfl (kr_V fun w3 hw3 => ?_) kx_V
    obtain ⟨hS3, hF3⟩ := hw3
    have hG3 := hG.tr hF3
    refine J_aload_n (pc := 20) dX6_pieces_20 rfl rfl rfl ?_
    obtain ⟨_, hc5, rfl⟩ := hS3 0 _ rfl
    refine J_get (pc := 21) (k := 3) dX6_pieces_21 kC7 (by decide) ff_X6_30 hc5 rfl ?_
    obtain ⟨_, hc7, ka7, rfl, hb7_0⟩ := hS3 12 _ rfl
    refine J_callV0 (pc := 24) (as := []) dX6_pieces_24 fw_X4_parts fl_X6_193 fm_X4_parts fe_X4_parts hc7 (by decide) rfl rfl rfl (c_X4_parts hs (d := d - 1) (by omega) (e := e) (r := r) (q := q) hn1 hn2 hS3 (w := w3)  (kc := 0) (ks := 0)) (by omega) (st := []) (Nat.le_of_ble_eq_true rfl) rfl (kr_P fun v6 hv6 => ?_) kx_I
    exact J_iret (pc := 27) dX6_pieces_27 rfl ⟨trivial, ⟨hS3, hG3⟩⟩
  · exact JX_out (fun _ h => nomatch h) (by obtain ⟨h1, h2⟩ := hx1; exact ⟨h1, by subst h2; exact ⟨hS.push, hG.tr Fr.push⟩⟩)
set_option maxRecDepth 100000 in
set_option maxHeartbeats 4000000 in
theorem c_X6_withOrder {X : jX} (hs : X.1.stackTraces = false) {d : Nat} (hd : 14 ≤ d) {n : Nat} {e r q : Int32} (hn1 : 2 ≤ n) (hn2 : n ≤ 7) {w : List jC} (hS : SH (rX n e r q) w) (p0 : Int32) (p1 : Int32) {kc ks : Nat} (hkc : 2 ≤ kc) (hks : 12 ≤ ks) : jMet X mX6_withOrder d kc ks [.ref 0, .int p0, .int p1] w (pX (pI (fun _ => True) (fun w' => rS n e r q w w')) (fun E w' => (E = "java/lang/IllegalArgumentException") ∧ rS n e r q w w')) := by
  refine jMet_of hs (by decide +kernel) (Nat.le_of_ble_eq_true rfl) (L := [some (.ref 0), some (.int p0), some (.int p1)]) rfl ?_
  have hG : Fr kX w w := Fr.rf
  refine J_iload_n (pc := 0) dX6_withOrder_0 rfl rfl ?_
  refine J_callS (pc := 1) (as := [.int p0]) dX6_withOrder_1 fw_X6_needSet fl_X6_131 fs_X6_needSet rfl (c_X6_needSet hs (d := d - 1) (by omega) (w := w) p0 (kc := 1) (ks := 6) (Nat.le_refl _) (Nat.le_refl _)) (by omega) (by omega) (by omega) (st := []) (Nat.le_of_ble_eq_true rfl) rfl (kr_X (kr_V fun w1 hw1 => ?_)) (kx_X fun E1 w1 hx1 => ?_)
  · subst hw1
    refine J_iload_n (pc := 4) dX6_withOrder_4 rfl rfl ?_
    refine J_iconst (pc := 5) (v := nI 1) dX6_withOrder_5 (by decide) ?_
    refine J_bipush (pc := 6) (v := nI 12) dX6_withOrder_6 (by decide) ?_
    refine J_callS (pc := 8) (as := [.int p1, .int (nI 1), .int (nI 12)]) dX6_withOrder_8 fw_X6_needBetween fl_X6_63 fs_X6_needBetween rfl (c_X6_needBetween hs (d := d - 1) (by omega) (w := w) p1 (nI 1) (nI 12) (kc := 1) (ks := 6) (Nat.le_refl _) (Nat.le_refl _)) (by omega) (by omega) (by omega) (st := []) (Nat.le_of_ble_eq_true rfl) rfl (kr_X (kr_V fun w2 hw2 => ?_)) (kx_X fun E2 w2 hx2 => ?_)
    · obtain ⟨rfl, hpa2, hpb2⟩ := hw2
      obtain ⟨b2, hb2, hc2, rfl⟩ := nI_btw hpa2 hpb2 (by omega) (by omega)
      refine J_aload_n (pc := 11) dX6_withOrder_11 rfl rfl rfl ?_
      obtain ⟨_, hc3, rfl⟩ := hS 0 _ rfl
      refine J_get (pc := 12) (k := 2) dX6_withOrder_12 kC7 (by decide) ff_X6_23 hc3 rfl ?_
      refine J_aload_n (pc := 15) dX6_withOrder_15 rfl rfl rfl ?_
      refine J_get (pc := 16) (k := 0) dX6_withOrder_16 kC7 (by decide) ff_X6_9 hc3 rfl ?_
      refine J_iload_n (pc := 19) dX6_withOrder_19 rfl rfl ?_
      refine J_aload_n (pc := 20) dX6_withOrder_20 rfl rfl rfl ?_
      refine J_get (pc := 21) (k := 5) dX6_withOrder_21 kC7 (by decide) ff_X6_41 hc3 rfl ?_
      obtain ⟨_, hc5, ka5, rfl, hb5_0⟩ := hS 8 _ rfl
      refine J_callV0 (pc := 24) (as := [.ref 1, .int p0, .int (nI n)]) dX6_withOrder_24 fw_X5_goThrough fl_X6_177 fm_X5_goThrough fe_X5_goThrough hc5 (by decide) rfl rfl rfl (c_X5_goThrough hs (d := d - 1) (by omega) (e := e) (r := r) (q := q) hn1 hn2 hS (w := w) p0 (kc := 0) (ks := 0)) (by omega) (st := []) (Nat.le_of_ble_eq_true rfl) rfl (kr_V fun w4 hw4 => ?_) kx_V
      obtain ⟨hS4, hF4⟩ := hw4
      have hG4 := hG.tr hF4
      refine J_aload_n (pc := 27) dX6_withOrder_27 rfl rfl rfl ?_
      obtain ⟨_, hc6, rfl⟩ := hS4 0 _ rfl
      refine J_get (pc := 28) (k := 2) dX6_withOrder_28 kC7 (by decide) ff_X6_23 hc6 rfl ?_
      refine J_iload_n (pc := 31) dX6_withOrder_31 rfl rfl ?_
      obtain ⟨_, hc8, ka8, rfl, hb8_0⟩ := hS4 8 _ rfl
      refine J_callV0 (pc := 32) (as := [.int (nI b2)]) dX6_withOrder_32 fw_X5_howManyOfOrder fl_X6_196 fm_X5_howManyOfOrder fe_X5_howManyOfOrder hc8 (by decide) rfl rfl rfl (c_X5_howManyOfOrder hs (d := d - 1) (by omega) (e := e) (r := r) (q := q) hn1 hn2 hS4 (w := w4) (nI b2) (kc := 0) (ks := 0)) (by omega) (st := []) (Nat.le_of_ble_eq_true rfl) rfl (kr_P fun v7 hv7 => ?_) kx_I
      exact J_iret (pc := 35) dX6_withOrder_35 rfl ⟨trivial, ⟨hS4, hG4⟩⟩
    · exact JX_out (fun _ h => nomatch h) (by obtain ⟨h1, h2⟩ := hx2; exact ⟨h1, by subst h2; exact ⟨hS.push, hG.tr Fr.push⟩⟩)
  · exact JX_out (fun _ h => nomatch h) (by obtain ⟨h1, h2⟩ := hx1; exact ⟨h1, by subst h2; exact ⟨hS.push, hG.tr Fr.push⟩⟩)
set_option maxRecDepth 100000 in
set_option maxHeartbeats 4000000 in
theorem c_X6_even {X : jX} (hs : X.1.stackTraces = false) {d : Nat} (hd : 14 ≤ d) {n : Nat} {e r q : Int32} (hn1 : 2 ≤ n) (hn2 : n ≤ 7) {w : List jC} (hS : SH (rX n e r q) w) (p0 : Int32) {kc ks : Nat} (hkc : 1 ≤ kc) (hks : 6 ≤ ks) : jMet X mX6_even d kc ks [.ref 0, .int p0] w (pX (pI (fun _ => True) (fun w' => rS n e r q w w')) (fun E w' => (E = "java/lang/IllegalArgumentException") ∧ rS n e r q w w')) := by
  refine jMet_of hs (by decide +kernel) (Nat.le_of_ble_eq_true rfl) (L := [some (.ref 0), some (.int p0)]) rfl ?_
  have hG : Fr kX w w := Fr.rf
  refine J_iload_n (pc := 0) dX6_even_0 rfl rfl ?_
  refine J_callS (pc := 1) (as := [.int p0]) dX6_even_1 fw_X6_needSet fl_X6_131 fs_X6_needSet rfl (c_X6_needSet hs (d := d - 1) (by omega) (w := w) p0 (kc := 1) (ks := 6) (Nat.le_refl _) (Nat.le_refl _)) (by omega) (by omega) (by omega) (st := []) (Nat.le_of_ble_eq_true rfl) rfl (kr_X (kr_V fun w1 hw1 => ?_)) (kx_X fun E1 w1 hx1 => ?_)
  · subst hw1
    refine J_aload_n (pc := 4) dX6_even_4 rfl rfl rfl ?_
    obtain ⟨_, hc2, rfl⟩ := hS 0 _ rfl
    refine J_get (pc := 5) (k := 2) dX6_even_5 kC7 (by decide) ff_X6_23 hc2 rfl ?_
    refine J_aload_n (pc := 8) dX6_even_8 rfl rfl rfl ?_
    refine J_get (pc := 9) (k := 0) dX6_even_9 kC7 (by decide) ff_X6_9 hc2 rfl ?_
    refine J_iload_n (pc := 12) dX6_even_12 rfl rfl ?_
    refine J_aload_n (pc := 13) dX6_even_13 rfl rfl rfl ?_
    refine J_get (pc := 14) (k := 5) dX6_even_14 kC7 (by decide) ff_X6_41 hc2 rfl ?_
    obtain ⟨_, hc4, ka4, rfl, hb4_0⟩ := hS 8 _ rfl
    refine J_callV0 (pc := 17) (as := [.ref 1, .int p0, .int (nI n)]) dX6_even_17 fw_X5_goThrough fl_X6_177 fm_X5_goThrough fe_X5_goThrough hc4 (by decide) rfl rfl rfl (c_X5_goThrough hs (d := d - 1) (by omega) (e := e) (r := r) (q := q) hn1 hn2 hS (w := w) p0 (kc := 0) (ks := 0)) (by omega) (st := []) (Nat.le_of_ble_eq_true rfl) rfl (kr_V fun w3 hw3 => ?_) kx_V
    obtain ⟨hS3, hF3⟩ := hw3
    have hG3 := hG.tr hF3
    refine J_aload_n (pc := 20) dX6_even_20 rfl rfl rfl ?_
    obtain ⟨_, hc5, rfl⟩ := hS3 0 _ rfl
    refine J_get (pc := 21) (k := 2) dX6_even_21 kC7 (by decide) ff_X6_23 hc5 rfl ?_
    obtain ⟨_, hc7, ka7, rfl, hb7_0⟩ := hS3 8 _ rfl
    refine J_callV0 (pc := 24) (as := []) dX6_even_24 fw_X5_howManyEven fl_X6_199 fm_X5_howManyEven fe_X5_howManyEven hc7 (by decide) rfl rfl rfl (c_X5_howManyEven hs (d := d - 1) (by omega) (e := e) (r := r) (q := q) hn1 hn2 hS3 (w := w3)  (kc := 0) (ks := 0)) (by omega) (st := []) (Nat.le_of_ble_eq_true rfl) rfl (kr_P fun v6 hv6 => ?_) kx_I
    exact J_iret (pc := 27) dX6_even_27 rfl ⟨trivial, ⟨hS3, hG3⟩⟩
  · exact JX_out (fun _ h => nomatch h) (by obtain ⟨h1, h2⟩ := hx1; exact ⟨h1, by subst h2; exact ⟨hS.push, hG.tr Fr.push⟩⟩)
set_option maxRecDepth 100000 in
set_option maxHeartbeats 4000000 in
theorem c_X6_colourings {X : jX} (hs : X.1.stackTraces = false) {d : Nat} (hd : 14 ≤ d) {n : Nat} {e r q : Int32} (hn1 : 2 ≤ n) (hn2 : n ≤ 7) {w : List jC} (hS : SH (rX n e r q) w) (p0 : Int32) (p1 : Int32) (p2 : Int32) {kc ks : Nat} (hkc : 3 ≤ kc) (hks : 18 ≤ ks) : jMet X mX6_colourings d kc ks [.ref 0, .int p0, .int p1, .int p2] w (pX (pI (fun _ => True) (fun w' => rS n e r q w w')) (fun E w' => (E = "java/lang/IllegalArgumentException") ∧ rS n e r q w w')) := by
  refine jMet_of hs (by decide +kernel) (Nat.le_of_ble_eq_true rfl) (L := [some (.ref 0), some (.int p0), some (.int p1), some (.int p2)]) rfl ?_
  have hG : Fr kX w w := Fr.rf
  refine J_iload_n (pc := 0) dX6_colourings_0 rfl rfl ?_
  refine J_callS (pc := 1) (as := [.int p0]) dX6_colourings_1 fw_X6_needSet fl_X6_131 fs_X6_needSet rfl (c_X6_needSet hs (d := d - 1) (by omega) (w := w) p0 (kc := 1) (ks := 6) (Nat.le_refl _) (Nat.le_refl _)) (by omega) (by omega) (by omega) (st := []) (Nat.le_of_ble_eq_true rfl) rfl (kr_X (kr_V fun w1 hw1 => ?_)) (kx_X fun E1 w1 hx1 => ?_)
  · subst hw1
    refine J_iload_n (pc := 4) dX6_colourings_4 rfl rfl ?_
    refine J_iconst (pc := 5) (v := nI 1) dX6_colourings_5 (by decide) ?_
    refine J_iconst (pc := 6) (v := nI 3) dX6_colourings_6 (by decide) ?_
    refine J_callS (pc := 7) (as := [.int p1, .int (nI 1), .int (nI 3)]) dX6_colourings_7 fw_X6_needBetween fl_X6_63 fs_X6_needBetween rfl (c_X6_needBetween hs (d := d - 1) (by omega) (w := w) p1 (nI 1) (nI 3) (kc := 1) (ks := 6) (Nat.le_refl _) (Nat.le_refl _)) (by omega) (by omega) (by omega) (st := []) (Nat.le_of_ble_eq_true rfl) rfl (kr_X (kr_V fun w2 hw2 => ?_)) (kx_X fun E2 w2 hx2 => ?_)
    · obtain ⟨rfl, hpa2, hpb2⟩ := hw2
      obtain ⟨b2, hb2, hc2, rfl⟩ := nI_btw hpa2 hpb2 (by omega) (by omega)
      refine J_iload_n (pc := 10) dX6_colourings_10 rfl rfl ?_
      refine J_iconst (pc := 11) (v := nI 0) dX6_colourings_11 (by decide) ?_
      refine J_iconst (pc := 12) (v := nI 1) dX6_colourings_12 (by decide) ?_
      refine J_callS (pc := 13) (as := [.int p2, .int (nI 0), .int (nI 1)]) dX6_colourings_13 fw_X6_needBetween fl_X6_63 fs_X6_needBetween rfl (c_X6_needBetween hs (d := d - 1) (by omega) (w := w) p2 (nI 0) (nI 1) (kc := 1) (ks := 6) (Nat.le_refl _) (Nat.le_refl _)) (by omega) (by omega) (by omega) (st := []) (Nat.le_of_ble_eq_true rfl) rfl (kr_X (kr_V fun w3 hw3 => ?_)) (kx_X fun E3 w3 hx3 => ?_)
      · obtain ⟨rfl, hpa3, hpb3⟩ := hw3
        obtain ⟨b3, hb3, hc3, rfl⟩ := nI_btw hpa3 hpb3 (by omega) (by omega)
        refine J_iload_n (pc := 16) dX6_colourings_16 rfl rfl ?_
        refine J_if_neN (pc := 17) (tgt := 45) dX6_colourings_17 (by decide) (by omega) (fun ht4 => ?_) (fun hf5 => ?_)
        · refine J_aload_n (pc := 45) dX6_colourings_45 rfl rfl rfl ?_
          obtain ⟨_, hc6, rfl⟩ := hS 0 _ rfl
          refine J_get (pc := 46) (k := 4) dX6_colourings_46 kC7 (by decide) ff_X6_37 hc6 rfl ?_
          refine J_aload_n (pc := 49) dX6_colourings_49 rfl rfl rfl ?_
          refine J_get (pc := 50) (k := 0) dX6_colourings_50 kC7 (by decide) ff_X6_9 hc6 rfl ?_
          refine J_iload_n (pc := 53) dX6_colourings_53 rfl rfl ?_
          refine J_iload_n (pc := 54) dX6_colourings_54 rfl rfl ?_
          refine J_aload_n (pc := 55) dX6_colourings_55 rfl rfl rfl ?_
          refine J_get (pc := 56) (k := 5) dX6_colourings_56 kC7 (by decide) ff_X6_41 hc6 rfl ?_
          obtain ⟨_, hc8, ka8, kb8, rfl, hb8_0, hb8_1, hb8_2⟩ := hS 14 _ rfl
          refine J_callV0 (pc := 59) (as := [.ref 1, .int p0, .int (nI b2), .int (nI n)]) dX6_colourings_59 fw_X3_colouringsOneByOne fl_X6_205 fm_X3_colouringsOneByOne fe_X3_colouringsOneByOne hc8 (by decide) rfl rfl rfl (c_X3_colouringsOneByOne hs (d := d - 1) (by omega) (e := e) (r := r) (q := q) hn1 hn2 hS (w := w) p0 b2 (by omega) (by omega) (kc := 0) (ks := 0)) (by omega) (st := []) (Nat.le_of_ble_eq_true rfl) rfl (kr_I fun v7 w7 hv7 hw7 => ?_) kx_I
          obtain ⟨hS7, hF7⟩ := hw7
          have hG7 := hG.tr hF7
          exact J_iret (pc := 62) dX6_colourings_62 rfl ⟨trivial, ⟨hS7, hG7⟩⟩
        · refine J_aload_n (pc := 20) dX6_colourings_20 rfl rfl rfl ?_
          obtain ⟨_, hc9, rfl⟩ := hS 0 _ rfl
          refine J_get (pc := 21) (k := 2) dX6_colourings_21 kC7 (by decide) ff_X6_23 hc9 rfl ?_
          refine J_aload_n (pc := 24) dX6_colourings_24 rfl rfl rfl ?_
          refine J_get (pc := 25) (k := 0) dX6_colourings_25 kC7 (by decide) ff_X6_9 hc9 rfl ?_
          refine J_iload_n (pc := 28) dX6_colourings_28 rfl rfl ?_
          refine J_aload_n (pc := 29) dX6_colourings_29 rfl rfl rfl ?_
          refine J_get (pc := 30) (k := 5) dX6_colourings_30 kC7 (by decide) ff_X6_41 hc9 rfl ?_
          obtain ⟨_, hc11, ka11, rfl, hb11_0⟩ := hS 8 _ rfl
          refine J_callV0 (pc := 33) (as := [.ref 1, .int p0, .int (nI n)]) dX6_colourings_33 fw_X5_goThrough fl_X6_177 fm_X5_goThrough fe_X5_goThrough hc11 (by decide) rfl rfl rfl (c_X5_goThrough hs (d := d - 1) (by omega) (e := e) (r := r) (q := q) hn1 hn2 hS (w := w) p0 (kc := 0) (ks := 0)) (by omega) (st := []) (Nat.le_of_ble_eq_true rfl) rfl (kr_V fun w10 hw10 => ?_) kx_V
          obtain ⟨hS10, hF10⟩ := hw10
          have hG10 := hG.tr hF10
          refine J_aload_n (pc := 36) dX6_colourings_36 rfl rfl rfl ?_
          obtain ⟨_, hc12, rfl⟩ := hS10 0 _ rfl
          refine J_get (pc := 37) (k := 2) dX6_colourings_37 kC7 (by decide) ff_X6_23 hc12 rfl ?_
          refine J_iload_n (pc := 40) dX6_colourings_40 rfl rfl ?_
          obtain ⟨_, hc14, ka14, rfl, hb14_0⟩ := hS10 8 _ rfl
          refine J_callV0 (pc := 41) (as := [.int (nI b2)]) dX6_colourings_41 fw_X5_colouringsByMean fl_X6_202 fm_X5_colouringsByMean fe_X5_colouringsByMean hc14 (by decide) rfl rfl rfl (c_X5_colouringsByMean hs (d := d - 1) (by omega) (e := e) (r := r) (q := q) hn1 hn2 hS10 (w := w10) (nI b2) (kc := 0) (ks := 0)) (by omega) (st := []) (Nat.le_of_ble_eq_true rfl) rfl (kr_P fun v13 hv13 => ?_) kx_I
          exact J_iret (pc := 44) dX6_colourings_44 rfl ⟨trivial, ⟨hS10, hG10⟩⟩
      · exact JX_out (fun _ h => nomatch h) (by obtain ⟨h1, h2⟩ := hx3; exact ⟨h1, by subst h2; exact ⟨hS.push, hG.tr Fr.push⟩⟩)
    · exact JX_out (fun _ h => nomatch h) (by obtain ⟨h1, h2⟩ := hx2; exact ⟨h1, by subst h2; exact ⟨hS.push, hG.tr Fr.push⟩⟩)
  · exact JX_out (fun _ h => nomatch h) (by obtain ⟨h1, h2⟩ := hx1; exact ⟨h1, by subst h2; exact ⟨hS.push, hG.tr Fr.push⟩⟩)
set_option maxRecDepth 100000 in
set_option maxHeartbeats 4000000 in
theorem c_X6_isPart {X : jX} (hs : X.1.stackTraces = false) {d : Nat} (hd : 14 ≤ d) {n : Nat} {e r q : Int32} (hn1 : 2 ≤ n) (hn2 : n ≤ 7) {w : List jC} (hS : SH (rX n e r q) w) (p0 : Int32) (p1 : Int32) {kc ks : Nat} (hkc : 2 ≤ kc) (hks : 12 ≤ ks) : jMet X mX6_isPart d kc ks [.ref 0, .int p0, .int p1] w (pX (pI (fun v => ∃ k : Nat, v = nI k ∧ k < 2) (fun w' => rS n e r q w w')) (fun E w' => (E = "java/lang/IllegalArgumentException") ∧ rS n e r q w w')) := by
  refine jMet_of hs (by decide +kernel) (Nat.le_of_ble_eq_true rfl) (L := [some (.ref 0), some (.int p0), some (.int p1)]) rfl ?_
  have hG : Fr kX w w := Fr.rf
  refine J_iload_n (pc := 0) dX6_isPart_0 rfl rfl ?_
  refine J_callS (pc := 1) (as := [.int p0]) dX6_isPart_1 fw_X6_needSet fl_X6_131 fs_X6_needSet rfl (c_X6_needSet hs (d := d - 1) (by omega) (w := w) p0 (kc := 1) (ks := 6) (Nat.le_refl _) (Nat.le_refl _)) (by omega) (by omega) (by omega) (st := []) (Nat.le_of_ble_eq_true rfl) rfl (kr_X (kr_V fun w1 hw1 => ?_)) (kx_X fun E1 w1 hx1 => ?_)
  · subst hw1
    refine J_iload_n (pc := 4) dX6_isPart_4 rfl rfl ?_
    refine J_callS (pc := 5) (as := [.int p1]) dX6_isPart_5 fw_X6_needSet fl_X6_131 fs_X6_needSet rfl (c_X6_needSet hs (d := d - 1) (by omega) (w := w) p1 (kc := 1) (ks := 6) (Nat.le_refl _) (Nat.le_refl _)) (by omega) (by omega) (by omega) (st := []) (Nat.le_of_ble_eq_true rfl) rfl (kr_X (kr_V fun w2 hw2 => ?_)) (kx_X fun E2 w2 hx2 => ?_)
    · subst hw2
      refine J_aload_n (pc := 8) dX6_isPart_8 rfl rfl rfl ?_
      obtain ⟨_, hc3, rfl⟩ := hS 0 _ rfl
      refine J_get (pc := 9) (k := 1) dX6_isPart_9 kC7 (by decide) ff_X6_16 hc3 rfl ?_
      refine J_aload_n (pc := 12) dX6_isPart_12 rfl rfl rfl ?_
      refine J_get (pc := 13) (k := 0) dX6_isPart_13 kC7 (by decide) ff_X6_9 hc3 rfl ?_
      refine J_iload_n (pc := 16) dX6_isPart_16 rfl rfl ?_
      refine J_ldc (pc := 17) (v := nI 1754760) dX6_isPart_17 (by have := fk_X6_56; exact this) ?_
      refine J_aload_n (pc := 19) dX6_isPart_19 rfl rfl rfl ?_
      refine J_get (pc := 20) (k := 5) dX6_isPart_20 kC7 (by decide) ff_X6_41 hc3 rfl ?_
      obtain ⟨_, hc5, ka5, kf5, kb5, kg5, rfl, hb5_0, hb5_1⟩ := hS 2 _ rfl
      refine J_callV0 (pc := 23) (as := [.ref 1, .int p1, .int (nI 1754760), .int (nI n)]) dX6_isPart_23 fw_X0_raise fl_X6_134 fm_X0_raise fe_X0_raise hc5 (by decide) rfl rfl rfl (c_X0_raise hs (d := d - 1) (by omega) (e := e) (r := r) (q := q) hn1 hn2 hS (w := w) p1 (nI 1754760) (kc := 0) (ks := 0)) (by omega) (st := []) (Nat.le_of_ble_eq_true rfl) rfl (kr_V fun w4 hw4 => ?_) kx_V
      obtain ⟨hS4, hF4⟩ := hw4
      have hG4 := hG.tr hF4
      refine J_aload_n (pc := 26) dX6_isPart_26 rfl rfl rfl ?_
      obtain ⟨_, hc6, rfl⟩ := hS4 0 _ rfl
      refine J_get (pc := 27) (k := 1) dX6_isPart_27 kC7 (by decide) ff_X6_16 hc6 rfl ?_
      refine J_aload_n (pc := 30) dX6_isPart_30 rfl rfl rfl ?_
      refine J_get (pc := 31) (k := 0) dX6_isPart_31 kC7 (by decide) ff_X6_9 hc6 rfl ?_
      refine J_iload_n (pc := 34) dX6_isPart_34 rfl rfl ?_
      obtain ⟨_, hc8, ka8, kf8, kb8, kg8, rfl, hb8_0, hb8_1⟩ := hS4 2 _ rfl
      refine J_callV0 (pc := 35) (as := [.ref 1, .int p0]) dX6_isPart_35 fw_X0_holdsAll fl_X6_209 fm_X0_holdsAll fe_X0_holdsAll hc8 (by decide) rfl rfl rfl (c_X0_holdsAll hs (d := d - 1) (by omega) (e := e) (r := r) (q := q) hn1 hn2 hS4 (w := w4) p0 (kc := 0) (ks := 0)) (by omega) (st := []) (Nat.le_of_ble_eq_true rfl) rfl (kr_P fun v7 hv7 => ?_) kx_I
      obtain ⟨k7, rfl, hk7⟩ := hv7
      exact J_zret (pc := 38) dX6_isPart_38 rfl (nar_b (by omega)) ⟨⟨k7, rfl, by omega⟩, ⟨hS4, hG4⟩⟩
    · exact JX_out (fun _ h => nomatch h) (by obtain ⟨h1, h2⟩ := hx2; exact ⟨h1, by subst h2; exact ⟨hS.push, hG.tr Fr.push⟩⟩)
  · exact JX_out (fun _ h => nomatch h) (by obtain ⟨h1, h2⟩ := hx1; exact ⟨h1, by subst h2; exact ⟨hS.push, hG.tr Fr.push⟩⟩)
set_option maxRecDepth 100000 in
set_option maxHeartbeats 4000000 in
theorem c_X6_shares {X : jX} (hs : X.1.stackTraces = false) {d : Nat} (hd : 14 ≤ d) {n : Nat} {e r q : Int32} (hn1 : 2 ≤ n) (hn2 : n ≤ 7) {w : List jC} (hS : SH (rX n e r q) w) (p0 : Int32) (p1 : Int32) {kc ks : Nat} (hkc : 2 ≤ kc) (hks : 12 ≤ ks) : jMet X mX6_shares d kc ks [.ref 0, .int p0, .int p1] w (pX (pI (fun _ => True) (fun w' => rS n e r q w w')) (fun E w' => (E = "java/lang/IllegalArgumentException") ∧ rS n e r q w w')) := by
  refine jMet_of hs (by decide +kernel) (Nat.le_of_ble_eq_true rfl) (L := [some (.ref 0), some (.int p0), some (.int p1), none]) rfl ?_
  have hG : Fr kX w w := Fr.rf
  refine J_iload_n (pc := 0) dX6_shares_0 rfl rfl ?_
  refine J_callS (pc := 1) (as := [.int p0]) dX6_shares_1 fw_X6_needSet fl_X6_131 fs_X6_needSet rfl (c_X6_needSet hs (d := d - 1) (by omega) (w := w) p0 (kc := 1) (ks := 6) (Nat.le_refl _) (Nat.le_refl _)) (by omega) (by omega) (by omega) (st := []) (Nat.le_of_ble_eq_true rfl) rfl (kr_X (kr_V fun w1 hw1 => ?_)) (kx_X fun E1 w1 hx1 => ?_)
  · subst hw1
    refine J_iload_n (pc := 4) dX6_shares_4 rfl rfl ?_
    refine J_callS (pc := 5) (as := [.int p1]) dX6_shares_5 fw_X6_needSet fl_X6_131 fs_X6_needSet rfl (c_X6_needSet hs (d := d - 1) (by omega) (w := w) p1 (kc := 1) (ks := 6) (Nat.le_refl _) (Nat.le_refl _)) (by omega) (by omega) (by omega) (st := []) (Nat.le_of_ble_eq_true rfl) rfl (kr_X (kr_V fun w2 hw2 => ?_)) (kx_X fun E2 w2 hx2 => ?_)
    · subst hw2
      refine J_aload_n (pc := 8) dX6_shares_8 rfl rfl rfl ?_
      obtain ⟨_, hc3, rfl⟩ := hS 0 _ rfl
      refine J_get (pc := 9) (k := 1) dX6_shares_9 kC7 (by decide) ff_X6_16 hc3 rfl ?_
      refine J_aload_n (pc := 12) dX6_shares_12 rfl rfl rfl ?_
      refine J_get (pc := 13) (k := 0) dX6_shares_13 kC7 (by decide) ff_X6_9 hc3 rfl ?_
      refine J_iload_n (pc := 16) dX6_shares_16 rfl rfl ?_
      refine J_ldc (pc := 17) (v := nI 1754760) dX6_shares_17 (by have := fk_X6_56; exact this) ?_
      refine J_aload_n (pc := 19) dX6_shares_19 rfl rfl rfl ?_
      refine J_get (pc := 20) (k := 5) dX6_shares_20 kC7 (by decide) ff_X6_41 hc3 rfl ?_
      obtain ⟨_, hc5, ka5, kf5, kb5, kg5, rfl, hb5_0, hb5_1⟩ := hS 2 _ rfl
      refine J_callV0 (pc := 23) (as := [.ref 1, .int p1, .int (nI 1754760), .int (nI n)]) dX6_shares_23 fw_X0_raise fl_X6_134 fm_X0_raise fe_X0_raise hc5 (by decide) rfl rfl rfl (c_X0_raise hs (d := d - 1) (by omega) (e := e) (r := r) (q := q) hn1 hn2 hS (w := w) p1 (nI 1754760) (kc := 0) (ks := 0)) (by omega) (st := []) (Nat.le_of_ble_eq_true rfl) rfl (kr_V fun w4 hw4 => ?_) kx_V
      obtain ⟨hS4, hF4⟩ := hw4
      have hG4 := hG.tr hF4
      refine J_aload_n (pc := 26) dX6_shares_26 rfl rfl rfl ?_
      obtain ⟨_, hc6, rfl⟩ := hS4 0 _ rfl
      refine J_get (pc := 27) (k := 1) dX6_shares_27 kC7 (by decide) ff_X6_16 hc6 rfl ?_
      refine J_aload_n (pc := 30) dX6_shares_30 rfl rfl rfl ?_
      refine J_get (pc := 31) (k := 0) dX6_shares_31 kC7 (by decide) ff_X6_9 hc6 rfl ?_
      refine J_iload_n (pc := 34) dX6_shares_34 rfl rfl ?_
      obtain ⟨_, hc8, ka8, kf8, kb8, kg8, rfl, hb8_0, hb8_1⟩ := hS4 2 _ rfl
      refine J_callV0 (pc := 35) (as := [.ref 1, .int p0]) dX6_shares_35 fw_X0_holdsAll fl_X6_209 fm_X0_holdsAll fe_X0_holdsAll hc8 (by decide) rfl rfl rfl (c_X0_holdsAll hs (d := d - 1) (by omega) (e := e) (r := r) (q := q) hn1 hn2 hS4 (w := w4) p0 (kc := 0) (ks := 0)) (by omega) (st := []) (Nat.le_of_ble_eq_true rfl) rfl (kr_P fun v7 hv7 => ?_) kx_I
      obtain ⟨k7, rfl, hk7⟩ := hv7
      refine J_if_neN (pc := 38) (tgt := 44) dX6_shares_38 (by decide) (by omega) (fun ht9 => ?_) (fun hf10 => ?_)
      · refine J_aload_n (pc := 44) dX6_shares_44 rfl rfl rfl ?_
        refine J_get (pc := 45) (k := 1) dX6_shares_45 kC7 (by decide) ff_X6_16 hc6 rfl ?_
        refine J_callV0 (pc := 48) (as := []) dX6_shares_48 fw_X0_total fl_X6_138 fm_X0_total fe_X0_total hc8 (by decide) rfl rfl rfl (c_X0_total hs (d := d - 1) (by omega) (e := e) (r := r) (q := q) hn1 hn2 hS4 (w := w4)  (kc := 0) (ks := 0)) (by omega) (st := []) (Nat.le_of_ble_eq_true rfl) rfl (kr_P fun v11 hv11 => ?_) kx_I
        refine J_istore_n (pc := 51) dX6_shares_51 rfl (by decide) rfl ?_
        show J X mX6_shares d (kc - 1 - 1) (ks - 6 - 6) 52 [some (.ref 0), some (.int p0), some (.int p1), some (.int v11)] [] w4 _
        refine J_aload_n (pc := 52) dX6_shares_52 rfl rfl rfl ?_
        refine J_get (pc := 53) (k := 1) dX6_shares_53 kC7 (by decide) ff_X6_16 hc6 rfl ?_
        refine J_aload_n (pc := 56) dX6_shares_56 rfl rfl rfl ?_
        refine J_get (pc := 57) (k := 0) dX6_shares_57 kC7 (by decide) ff_X6_9 hc6 rfl ?_
        refine J_iload_n (pc := 60) dX6_shares_60 rfl rfl ?_
        refine J_ldc (pc := 61) (v := nI 1754760) dX6_shares_61 (by have := fk_X6_56; exact this) ?_
        refine J_aload_n (pc := 63) dX6_shares_63 rfl rfl rfl ?_
        refine J_get (pc := 64) (k := 5) dX6_shares_64 kC7 (by decide) ff_X6_41 hc6 rfl ?_
        refine J_callV0 (pc := 67) (as := [.ref 1, .int p0, .int (nI 1754760), .int (nI n)]) dX6_shares_67 fw_X0_raise fl_X6_134 fm_X0_raise fe_X0_raise hc8 (by decide) rfl rfl rfl (c_X0_raise hs (d := d - 1) (by omega) (e := e) (r := r) (q := q) hn1 hn2 hS4 (w := w4) p0 (nI 1754760) (kc := 0) (ks := 0)) (by omega) (st := []) (Nat.le_of_ble_eq_true rfl) rfl (kr_V fun w12 hw12 => ?_) kx_V
        obtain ⟨hS12, hF12⟩ := hw12
        have hG12 := hG4.tr hF12
        refine J_iload_n (pc := 70) dX6_shares_70 rfl rfl ?_
        refine J_aload_n (pc := 71) dX6_shares_71 rfl rfl rfl ?_
        obtain ⟨_, hc13, rfl⟩ := hS12 0 _ rfl
        refine J_get (pc := 72) (k := 1) dX6_shares_72 kC7 (by decide) ff_X6_16 hc13 rfl ?_
        obtain ⟨_, hc15, ka15, kf15, kb15, kg15, rfl, hb15_0, hb15_1⟩ := hS12 2 _ rfl
        refine J_callV0 (pc := 75) (as := []) dX6_shares_75 fw_X0_total fl_X6_138 fm_X0_total fe_X0_total hc15 (by decide) rfl rfl rfl (c_X0_total hs (d := d - 1) (by omega) (e := e) (r := r) (q := q) hn1 hn2 hS12 (w := w12)  (kc := 0) (ks := 0)) (by omega) (st := [.int v11]) (Nat.le_of_ble_eq_true rfl) rfl (kr_P fun v14 hv14 => ?_) kx_I
        refine J_callS0 (pc := 78) (as := [.int v11, .int v14]) dX6_shares_78 fw_X6_quotient fl_X6_213 fs_X6_quotient rfl (c_X6_quotient hs (d := d - 1) (by omega) (w := w12) v11 v14 (kc := 0) (ks := 0)) (by omega) (st := []) (Nat.le_of_ble_eq_true rfl) rfl (kr_P fun v16 hv16 => ?_) kx_I
        exact J_iret (pc := 81) dX6_shares_81 rfl ⟨trivial, ⟨hS12, hG12⟩⟩
      · refine J_bipush (pc := 41) (v := (-9)) dX6_shares_41 (by decide) ?_
        exact J_iret (pc := 43) dX6_shares_43 rfl ⟨trivial, ⟨hS4, hG4⟩⟩
    · exact JX_out (fun _ h => nomatch h) (by obtain ⟨h1, h2⟩ := hx2; exact ⟨h1, by subst h2; exact ⟨hS.push, hG.tr Fr.push⟩⟩)
  · exact JX_out (fun _ h => nomatch h) (by obtain ⟨h1, h2⟩ := hx1; exact ⟨h1, by subst h2; exact ⟨hS.push, hG.tr Fr.push⟩⟩)
set_option maxRecDepth 100000 in
set_option maxHeartbeats 4000000 in
theorem c_X6_share {X : jX} (hs : X.1.stackTraces = false) {d : Nat} (hd : 14 ≤ d) {n : Nat} {e r q : Int32} (hn1 : 2 ≤ n) (hn2 : n ≤ 7) {w : List jC} (hS : SH (rX n e r q) w) (p0 : Int32) (p1 : Int32) {kc ks : Nat} (hkc : 2 ≤ kc) (hks : 12 ≤ ks) : jMet X mX6_share d kc ks [.ref 0, .int p0, .int p1] w (pX (pI (fun _ => True) (fun w' => rS n e r q w w')) (fun E w' => (E = "java/lang/IndexOutOfBoundsException" ∨ E = "java/lang/IllegalArgumentException") ∧ rS n e r q w w')) := by
  refine jMet_of hs (by decide +kernel) (Nat.le_of_ble_eq_true rfl) (L := [some (.ref 0), some (.int p0), some (.int p1)]) rfl ?_
  have hG : Fr kX w w := Fr.rf
  refine J_iload_n (pc := 0) dX6_share_0 rfl rfl ?_
  refine J_callS (pc := 1) (as := [.int p1]) dX6_share_1 fw_X6_needCell fl_X6_67 fs_X6_needCell rfl (c_X6_needCell hs (d := d - 1) (by omega) (w := w) p1 (kc := 1) (ks := 6) (Nat.le_refl _) (Nat.le_refl _)) (by omega) (by omega) (by omega) (st := []) (Nat.le_of_ble_eq_true rfl) rfl (kr_X (kr_V fun w1 hw1 => ?_)) (kx_X fun E1 w1 hx1 => ?_)
  · obtain ⟨rfl, hp1⟩ := hw1
    obtain ⟨b1, hb1, rfl⟩ := hp1
    refine J_iload_n (pc := 4) dX6_share_4 rfl rfl ?_
    refine J_callS (pc := 5) (as := [.int p0]) dX6_share_5 fw_X6_needSet fl_X6_131 fs_X6_needSet rfl (c_X6_needSet hs (d := d - 1) (by omega) (w := w) p0 (kc := 1) (ks := 6) (Nat.le_refl _) (Nat.le_refl _)) (by omega) (by omega) (by omega) (st := []) (Nat.le_of_ble_eq_true rfl) rfl (kr_X (kr_V fun w2 hw2 => ?_)) (kx_X fun E2 w2 hx2 => ?_)
    · subst hw2
      refine J_aload_n (pc := 8) dX6_share_8 rfl rfl rfl ?_
      obtain ⟨_, hc3, rfl⟩ := hS 0 _ rfl
      refine J_get (pc := 9) (k := 1) dX6_share_9 kC7 (by decide) ff_X6_16 hc3 rfl ?_
      refine J_aload_n (pc := 12) dX6_share_12 rfl rfl rfl ?_
      refine J_get (pc := 13) (k := 0) dX6_share_13 kC7 (by decide) ff_X6_9 hc3 rfl ?_
      refine J_iload_n (pc := 16) dX6_share_16 rfl rfl ?_
      refine J_ldc (pc := 17) (v := nI 1754760) dX6_share_17 (by have := fk_X6_56; exact this) ?_
      refine J_aload_n (pc := 19) dX6_share_19 rfl rfl rfl ?_
      refine J_get (pc := 20) (k := 5) dX6_share_20 kC7 (by decide) ff_X6_41 hc3 rfl ?_
      obtain ⟨_, hc5, ka5, kf5, kb5, kg5, rfl, hb5_0, hb5_1⟩ := hS 2 _ rfl
      refine J_callV0 (pc := 23) (as := [.ref 1, .int p0, .int (nI 1754760), .int (nI n)]) dX6_share_23 fw_X0_raise fl_X6_134 fm_X0_raise fe_X0_raise hc5 (by decide) rfl rfl rfl (c_X0_raise hs (d := d - 1) (by omega) (e := e) (r := r) (q := q) hn1 hn2 hS (w := w) p0 (nI 1754760) (kc := 0) (ks := 0)) (by omega) (st := []) (Nat.le_of_ble_eq_true rfl) rfl (kr_V fun w4 hw4 => ?_) kx_V
      obtain ⟨hS4, hF4⟩ := hw4
      have hG4 := hG.tr hF4
      refine J_aload_n (pc := 26) dX6_share_26 rfl rfl rfl ?_
      obtain ⟨_, hc6, rfl⟩ := hS4 0 _ rfl
      refine J_get (pc := 27) (k := 1) dX6_share_27 kC7 (by decide) ff_X6_16 hc6 rfl ?_
      refine J_iconst (pc := 30) (v := nI 0) dX6_share_30 (by decide) ?_
      refine J_aload_n (pc := 31) dX6_share_31 rfl rfl rfl ?_
      refine J_get (pc := 32) (k := 0) dX6_share_32 kC7 (by decide) ff_X6_9 hc6 rfl ?_
      refine J_iload_n (pc := 35) dX6_share_35 rfl rfl ?_
      obtain ⟨_, hc7, xs7, rfl, hl7⟩ := hS4 1 _ rfl
      refine J_iald (pc := 36) dX6_share_36 hc7 (nI_in (by omega) (by omega)) (J_absI fun x8 => ?_)
      obtain ⟨_, hc10, ka10, kf10, kb10, kg10, rfl, hb10_0, hb10_1⟩ := hS4 2 _ rfl
      refine J_callV0 (pc := 37) (as := [.int (nI 0), .int x8]) dX6_share_37 fw_X0_moveAt fl_X6_141 fm_X0_moveAt fe_X0_moveAt hc10 (by decide) rfl rfl rfl (c_X0_moveAt hs (d := d - 1) (by omega) (e := e) (r := r) (q := q) hn1 hn2 hS4 (w := w4) (nI 0) x8 (kc := 0) (ks := 0)) (by omega) (st := []) (Nat.le_of_ble_eq_true rfl) rfl (kr_P fun v9 hv9 => ?_) kx_I
      refine J_aload_n (pc := 40) dX6_share_40 rfl rfl rfl ?_
      refine J_get (pc := 41) (k := 5) dX6_share_41 kC7 (by decide) ff_X6_41 hc6 rfl ?_
      refine J_callS0 (pc := 44) (as := [.int v9, .int (nI n)]) dX6_share_44 fw_X2_numberOf fl_X6_75 fs_X2_numberOf rfl (c_X2_numberOf hs (d := d - 1) (by omega) (w := w4) v9 n (by omega) (kc := 0) (ks := 0)) (by omega) (st := []) (Nat.le_of_ble_eq_true rfl) rfl (kr_P fun v11 hv11 => ?_) kx_I
      exact J_iret (pc := 47) dX6_share_47 rfl ⟨trivial, ⟨hS4, hG4⟩⟩
    · exact JX_out (fun _ h => nomatch h) (by obtain ⟨h1, h2⟩ := hx2; exact ⟨Or.inr h1, by subst h2; exact ⟨hS.push, hG.tr Fr.push⟩⟩)
  · exact JX_out (fun _ h => nomatch h) (by obtain ⟨h1, h2⟩ := hx1; exact ⟨Or.inl h1, by subst h2; exact ⟨hS.push, hG.tr Fr.push⟩⟩)
set_option maxRecDepth 100000 in
set_option maxHeartbeats 4000000 in
theorem c_X6_together {X : jX} (hs : X.1.stackTraces = false) {d : Nat} (hd : 14 ≤ d) {n : Nat} {e r q : Int32} (hn1 : 2 ≤ n) (hn2 : n ≤ 7) {w : List jC} (hS : SH (rX n e r q) w) (p0 : Int32) (p1 : Int32) (p2 : Int32) {kc ks : Nat} (hkc : 3 ≤ kc) (hks : 18 ≤ ks) : jMet X mX6_together d kc ks [.ref 0, .int p0, .int p1, .int p2] w (pX (pI (fun _ => True) (fun w' => rS n e r q w w')) (fun E w' => (E = "java/lang/IndexOutOfBoundsException" ∨ E = "java/lang/IllegalArgumentException") ∧ rS n e r q w w')) := by
  refine jMet_of hs (by decide +kernel) (Nat.le_of_ble_eq_true rfl) (L := [some (.ref 0), some (.int p0), some (.int p1), some (.int p2)]) rfl ?_
  have hG : Fr kX w w := Fr.rf
  refine J_aload_n (pc := 0) dX6_together_0 rfl rfl rfl ?_
  refine J_iload_n (pc := 1) dX6_together_1 rfl rfl ?_
  obtain ⟨_, hc2, rfl⟩ := hS 0 _ rfl
  refine J_callV (pc := 2) (as := [.int p1]) dX6_together_2 fw_X6_needPoint fl_X6_86 fm_X6_needPoint fe_X6_needPoint hc2 (by decide) rfl rfl rfl (c_X6_needPoint hs (d := d - 1) (by omega) (e := e) (r := r) (q := q) hn1 hn2 hS (w := w) p1 (kc := 1) (ks := 6) (Nat.le_refl _) (Nat.le_refl _)) (by omega) (by omega) (by omega) (st := []) (Nat.le_of_ble_eq_true rfl) rfl (kr_X (kr_V fun w1 hw1 => ?_)) (kx_X fun E1 w1 hx1 => ?_)
  · obtain ⟨rfl, hp1⟩ := hw1
    obtain ⟨b1, hb1, rfl⟩ := hp1
    refine J_aload_n (pc := 5) dX6_together_5 rfl rfl rfl ?_
    refine J_iload_n (pc := 6) dX6_together_6 rfl rfl ?_
    refine J_callV (pc := 7) (as := [.int p2]) dX6_together_7 fw_X6_needPoint fl_X6_86 fm_X6_needPoint fe_X6_needPoint hc2 (by decide) rfl rfl rfl (c_X6_needPoint hs (d := d - 1) (by omega) (e := e) (r := r) (q := q) hn1 hn2 hS (w := w) p2 (kc := 1) (ks := 6) (Nat.le_refl _) (Nat.le_refl _)) (by omega) (by omega) (by omega) (st := []) (Nat.le_of_ble_eq_true rfl) rfl (kr_X (kr_V fun w3 hw3 => ?_)) (kx_X fun E3 w3 hx3 => ?_)
    · obtain ⟨rfl, hp3⟩ := hw3
      obtain ⟨b3, hb3, rfl⟩ := hp3
      refine J_iload_n (pc := 10) dX6_together_10 rfl rfl ?_
      refine J_callS (pc := 11) (as := [.int p0]) dX6_together_11 fw_X6_needSet fl_X6_131 fs_X6_needSet rfl (c_X6_needSet hs (d := d - 1) (by omega) (w := w) p0 (kc := 1) (ks := 6) (Nat.le_refl _) (Nat.le_refl _)) (by omega) (by omega) (by omega) (st := []) (Nat.le_of_ble_eq_true rfl) rfl (kr_X (kr_V fun w4 hw4 => ?_)) (kx_X fun E4 w4 hx4 => ?_)
      · subst hw4
        refine J_aload_n (pc := 14) dX6_together_14 rfl rfl rfl ?_
        refine J_get (pc := 15) (k := 3) dX6_together_15 kC7 (by decide) ff_X6_30 hc2 rfl ?_
        refine J_aload_n (pc := 18) dX6_together_18 rfl rfl rfl ?_
        refine J_get (pc := 19) (k := 0) dX6_together_19 kC7 (by decide) ff_X6_9 hc2 rfl ?_
        refine J_iload_n (pc := 22) dX6_together_22 rfl rfl ?_
        refine J_iload_n (pc := 23) dX6_together_23 rfl rfl ?_
        refine J_iload_n (pc := 24) dX6_together_24 rfl rfl ?_
        refine J_aload_n (pc := 25) dX6_together_25 rfl rfl rfl ?_
        refine J_get (pc := 26) (k := 5) dX6_together_26 kC7 (by decide) ff_X6_41 hc2 rfl ?_
        obtain ⟨_, hc6, ka6, rfl, hb6_0⟩ := hS 12 _ rfl
        refine J_callV0 (pc := 29) (as := [.ref 1, .int p0, .int (nI b1), .int (nI b3), .int (nI n)]) dX6_together_29 fw_X4_joinBlocks fl_X6_216 fm_X4_joinBlocks fe_X4_joinBlocks hc6 (by decide) rfl rfl rfl (c_X4_joinBlocks hs (d := d - 1) (by omega) (e := e) (r := r) (q := q) hn1 hn2 hS (w := w) p0 b1 b3 (by omega) (by omega) (kc := 0) (ks := 0)) (by omega) (st := []) (Nat.le_of_ble_eq_true rfl) rfl (kr_V fun w5 hw5 => ?_) kx_V
        obtain ⟨hS5, hF5⟩ := hw5
        have hG5 := hG.tr hF5
        refine J_aload_n (pc := 32) dX6_together_32 rfl rfl rfl ?_
        obtain ⟨_, hc7, rfl⟩ := hS5 0 _ rfl
        refine J_get (pc := 33) (k := 3) dX6_together_33 kC7 (by decide) ff_X6_30 hc7 rfl ?_
        refine J_iload_n (pc := 36) dX6_together_36 rfl rfl ?_
        obtain ⟨_, hc9, ka9, rfl, hb9_0⟩ := hS5 12 _ rfl
        refine J_callV0 (pc := 37) (as := [.int (nI b1)]) dX6_together_37 fw_X4_partWith fl_X6_190 fm_X4_partWith fe_X4_partWith hc9 (by decide) rfl rfl rfl (c_X4_partWith hs (d := d - 1) (by omega) (e := e) (r := r) (q := q) hn1 hn2 hS5 (w := w5) (nI b1) (kc := 0) (ks := 0)) (by omega) (st := []) (Nat.le_of_ble_eq_true rfl) rfl (kr_P fun v8 hv8 => ?_) kx_I
        exact J_iret (pc := 40) dX6_together_40 rfl ⟨trivial, ⟨hS5, hG5⟩⟩
      · exact JX_out (fun _ h => nomatch h) (by obtain ⟨h1, h2⟩ := hx4; exact ⟨Or.inr h1, by subst h2; exact ⟨hS.push, hG.tr Fr.push⟩⟩)
    · exact JX_out (fun _ h => nomatch h) (by obtain ⟨h1, h2⟩ := hx3; exact ⟨Or.inl h1, by subst h2; exact ⟨hS.push, hG.tr Fr.push⟩⟩)
  · exact JX_out (fun _ h => nomatch h) (by obtain ⟨h1, h2⟩ := hx1; exact ⟨Or.inl h1, by subst h2; exact ⟨hS.push, hG.tr Fr.push⟩⟩)
