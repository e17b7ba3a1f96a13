/-! contracts of the class -/
set_option maxRecDepth 100000 in
set_option maxHeartbeats 4000000 in
theorem c_X6_rank {X : jX} (hs : X.1.stackTraces = false) {d : Nat} (hd : 14 ≤ d) {n : Nat} {e r q : Int32} (hn1 : 2 ≤ n) (hn2 : n ≤ 7) {w : List jC} (hS : SH (rX n e r q) w) (p0 : Int32) (p1 : Int32) (p2 : Int32) {kc ks : Nat} (hkc : 3 ≤ kc) (hks : 18 ≤ ks) : jMet X mX6_rank d kc ks [.ref 0, .int p0, .int p1, .int p2] w (pX (pI (fun _ => True) (fun w' => rS n e r q w w')) (fun E w' => (E = "java/lang/IndexOutOfBoundsException" ∨ E = "java/lang/IllegalArgumentException") ∧ rS n e r q w w')) := by
  refine jMet_of hs (by decide +kernel) (Nat.le_of_ble_eq_true rfl) (L := [some (.ref 0), some (.int p0), some (.int p1), some (.int p2)]) rfl ?_
  have hG : Fr kX w w := Fr.rf
  refine J_iload_n (pc := 0) dX6_rank_0 rfl rfl ?_
  refine J_callS (pc := 1) (M := mX6_rank) (as := [.int p1]) dX6_rank_1 fw_X6_needCell fl_X6_67 fs_X6_needCell rfl (c_X6_needCell hs (d := d - 1) (by omega) (w := w) p1 (kc := 1) (ks := 6) (Nat.le_refl _) (Nat.le_refl _)) (by omega) (by omega) (by omega) (st := []) (Nat.le_of_ble_eq_true rfl) rfl (kr_X (kr_V fun w1 hw1 => ?_)) (kx_X fun E1 w1 hx1 => ?_)
  · obtain ⟨hq1, hp1⟩ := hw1
    obtain rfl := hq1.symm
    obtain ⟨b1, hb1, rfl⟩ := hp1
    refine J_iload_n (pc := 4) dX6_rank_4 rfl rfl ?_
    refine J_callS (pc := 5) (M := mX6_rank) (as := [.int p2]) dX6_rank_5 fw_X6_needCell fl_X6_67 fs_X6_needCell rfl (c_X6_needCell hs (d := d - 1) (by omega) (w := w) p2 (kc := 1) (ks := 6) (Nat.le_refl _) (Nat.le_refl _)) (by omega) (by omega) (by omega) (st := []) (Nat.le_of_ble_eq_true rfl) rfl (kr_X (kr_V fun w2 hw2 => ?_)) (kx_X fun E2 w2 hx2 => ?_)
    · obtain ⟨hq2, hp2⟩ := hw2
      obtain rfl := hq2.symm
      obtain ⟨b2, hb2, rfl⟩ := hp2
      refine J_iload_n (pc := 8) dX6_rank_8 rfl rfl ?_
      refine J_callS (pc := 9) (M := mX6_rank) (as := [.int p0]) dX6_rank_9 fw_X6_needSet fl_X6_131 fs_X6_needSet rfl (c_X6_needSet hs (d := d - 1) (by omega) (w := w) p0 (kc := 1) (ks := 6) (Nat.le_refl _) (Nat.le_refl _)) (by omega) (by omega) (by omega) (st := []) (Nat.le_of_ble_eq_true rfl) rfl (kr_X (kr_V fun w3 hw3 => ?_)) (kx_X fun E3 w3 hx3 => ?_)
      · obtain rfl := hw3.symm
        refine J_aload_n (pc := 12) dX6_rank_12 rfl rfl rfl ?_
        obtain ⟨_, hc4, rfl⟩ := hS 0 _ rfl
        refine J_get (pc := 13) (k := 1) dX6_rank_13 kC7 (by decide) ff_X6_16 hc4 rfl ?_
        refine J_aload_n (pc := 16) dX6_rank_16 rfl rfl rfl ?_
        refine J_get (pc := 17) (k := 0) dX6_rank_17 kC7 (by decide) ff_X6_9 hc4 rfl ?_
        refine J_iload_n (pc := 20) dX6_rank_20 rfl rfl ?_
        refine J_aload_n (pc := 21) dX6_rank_21 rfl rfl rfl ?_
        refine J_get (pc := 22) (k := 0) dX6_rank_22 kC7 (by decide) ff_X6_9 hc4 rfl ?_
        refine J_iload_n (pc := 25) dX6_rank_25 rfl rfl ?_
        obtain ⟨_, hc5, xs5, rfl, hl5⟩ := hS 1 _ rfl
        refine J_iald (pc := 26) dX6_rank_26 hc5 (nI_in (by omega) (by omega)) (J_absI fun x6 => ?_)
        refine J_aload_n (pc := 27) dX6_rank_27 rfl rfl rfl ?_
        refine J_get (pc := 28) (k := 5) dX6_rank_28 kC7 (by decide) ff_X6_41 hc4 rfl ?_
        obtain ⟨_, hc8, ka8, kf8, kb8, kg8, rfl, hb8_0, hb8_1⟩ := hS 2 _ rfl
        refine J_callV0 (pc := 31) (M := mX6_rank) (as := [.ref 1, .int p0, .int x6, .int (nI n)]) dX6_rank_31 fw_X0_raise fl_X6_134 fm_X0_raise fe_X0_raise hc8 (by decide) rfl rfl rfl (c_X0_raise hs (d := d - 1) (by omega) (e := e) (r := r) (q := q) hn1 hn2 hS (w := w) p0 x6 (kc := 0) (ks := 0)) (by omega) (st := []) (Nat.le_of_ble_eq_true rfl) rfl (kr_V fun w7 hw7 => ?_) kx_V
        obtain ⟨hS7, hF7⟩ := hw7
        have hG7 := hG.tr hF7
        refine J_aload_n (pc := 34) dX6_rank_34 rfl rfl rfl ?_
        obtain ⟨_, hc9, rfl⟩ := hS7 0 _ rfl
        refine J_get (pc := 35) (k := 1) dX6_rank_35 kC7 (by decide) ff_X6_16 hc9 rfl ?_
        refine J_aload_n (pc := 38) dX6_rank_38 rfl rfl rfl ?_
        refine J_get (pc := 39) (k := 0) dX6_rank_39 kC7 (by decide) ff_X6_9 hc9 rfl ?_
        refine J_iload_n (pc := 42) dX6_rank_42 rfl rfl ?_
        obtain ⟨_, hc10, xs10, rfl, hl10⟩ := hS7 1 _ rfl
        refine J_iald (pc := 43) dX6_rank_43 hc10 (nI_in (by omega) (by omega)) (J_absI fun x11 => ?_)
        obtain ⟨_, hc13, ka13, kf13, kb13, kg13, rfl, hb13_0, hb13_1⟩ := hS7 2 _ rfl
        refine J_callV0 (pc := 44) (M := mX6_rank) (as := [.int x11]) dX6_rank_44 fw_X0_rankOf fl_X6_184 fm_X0_rankOf fe_X0_rankOf hc13 (by decide) rfl rfl rfl (c_X0_rankOf hs (d := d - 1) (by omega) (e := e) (r := r) (q := q) hn1 hn2 hS7 (w := w7) x11 (kc := 0) (ks := 0)) (by omega) (st := []) (Nat.le_of_ble_eq_true rfl) rfl (kr_P fun v12 hv12 => ?_) kx_I
        exact J_iret (pc := 47) dX6_rank_47 rfl ⟨trivial, ⟨hS7, hG7⟩⟩
      · exact JX_out (fun _ h => nomatch h) (by obtain ⟨h1, h2⟩ := hx3; exact ⟨Or.inr h1, by subst h2; exact ⟨hS.push, hG.tr Fr.push⟩⟩)
    · exact JX_out (fun _ h => nomatch h) (by obtain ⟨h1, h2⟩ := hx2; exact ⟨Or.inl h1, by subst h2; exact ⟨hS.push, hG.tr Fr.push⟩⟩)
  · exact JX_out (fun _ h => nomatch h) (by obtain ⟨h1, h2⟩ := hx1; exact ⟨Or.inl h1, by subst h2; exact ⟨hS.push, hG.tr Fr.push⟩⟩)
set_option maxRecDepth 100000 in
set_option maxHeartbeats 4000000 in
theorem c_X6_comes {X : jX} (hs : X.1.stackTraces = false) {d : Nat} (hd : 14 ≤ d) {n : Nat} {e r q : Int32} (hn1 : 2 ≤ n) (hn2 : n ≤ 7) {w : List jC} (hS : SH (rX n e r q) w) (p0 : Int32) (p1 : Int32) {kc ks : Nat} (hkc : 2 ≤ kc) (hks : 12 ≤ ks) : jMet X mX6_comes d kc ks [.ref 0, .int p0, .int p1] w (pX (pI (fun _ => True) (fun w' => rS n e r q w w')) (fun E w' => (E = "java/lang/IndexOutOfBoundsException" ∨ E = "java/lang/IllegalArgumentException") ∧ rS n e r q w w')) := by
  refine jMet_of hs (by decide +kernel) (Nat.le_of_ble_eq_true rfl) (L := [some (.ref 0), some (.int p0), some (.int p1)]) rfl ?_
  have hG : Fr kX w w := Fr.rf
  refine J_aload_n (pc := 0) dX6_comes_0 rfl rfl rfl ?_
  refine J_iload_n (pc := 1) dX6_comes_1 rfl rfl ?_
  obtain ⟨_, hc2, rfl⟩ := hS 0 _ rfl
  refine J_callV (pc := 2) (M := mX6_comes) (as := [.int p1]) dX6_comes_2 fw_X6_needPoint fl_X6_86 fm_X6_needPoint fe_X6_needPoint hc2 (by decide) rfl rfl rfl (c_X6_needPoint hs (d := d - 1) (by omega) (e := e) (r := r) (q := q) hn1 hn2 hS (w := w) p1 (kc := 1) (ks := 6) (Nat.le_refl _) (Nat.le_refl _)) (by omega) (by omega) (by omega) (st := []) (Nat.le_of_ble_eq_true rfl) rfl (kr_X (kr_V fun w1 hw1 => ?_)) (kx_X fun E1 w1 hx1 => ?_)
  · obtain ⟨hq1, hp1⟩ := hw1
    obtain rfl := hq1.symm
    obtain ⟨b1, hb1, rfl⟩ := hp1
    refine J_iload_n (pc := 5) dX6_comes_5 rfl rfl ?_
    refine J_callS (pc := 6) (M := mX6_comes) (as := [.int p0]) dX6_comes_6 fw_X6_needSet fl_X6_131 fs_X6_needSet rfl (c_X6_needSet hs (d := d - 1) (by omega) (w := w) p0 (kc := 1) (ks := 6) (Nat.le_refl _) (Nat.le_refl _)) (by omega) (by omega) (by omega) (st := []) (Nat.le_of_ble_eq_true rfl) rfl (kr_X (kr_V fun w3 hw3 => ?_)) (kx_X fun E3 w3 hx3 => ?_)
    · obtain rfl := hw3.symm
      refine J_aload_n (pc := 9) dX6_comes_9 rfl rfl rfl ?_
      refine J_get (pc := 10) (k := 3) dX6_comes_10 kC7 (by decide) ff_X6_30 hc2 rfl ?_
      refine J_aload_n (pc := 13) dX6_comes_13 rfl rfl rfl ?_
      refine J_get (pc := 14) (k := 0) dX6_comes_14 kC7 (by decide) ff_X6_9 hc2 rfl ?_
      refine J_iload_n (pc := 17) dX6_comes_17 rfl rfl ?_
      refine J_aload_n (pc := 18) dX6_comes_18 rfl rfl rfl ?_
      refine J_get (pc := 19) (k := 5) dX6_comes_19 kC7 (by decide) ff_X6_41 hc2 rfl ?_
      obtain ⟨_, hc5, ka5, rfl, hb5_0⟩ := hS 12 _ rfl
      refine J_callV0 (pc := 22) (M := mX6_comes) (as := [.ref 1, .int p0, .int (nI n)]) dX6_comes_22 fw_X4_joinComing fl_X6_187 fm_X4_joinComing fe_X4_joinComing hc5 (by decide) rfl rfl rfl (c_X4_joinComing hs (d := d - 1) (by omega) (e := e) (r := r) (q := q) hn1 hn2 hS (w := w) p0 (kc := 0) (ks := 0)) (by omega) (st := []) (Nat.le_of_ble_eq_true rfl) rfl (kr_V fun w4 hw4 => ?_) kx_V
      obtain ⟨hS4, hF4⟩ := hw4
      have hG4 := hG.tr hF4
      refine J_aload_n (pc := 25) dX6_comes_25 rfl rfl rfl ?_
      obtain ⟨_, hc6, rfl⟩ := hS4 0 _ rfl
      refine J_get (pc := 26) (k := 3) dX6_comes_26 kC7 (by decide) ff_X6_30 hc6 rfl ?_
      refine J_iload_n (pc := 29) dX6_comes_29 rfl rfl ?_
      obtain ⟨_, hc8, ka8, rfl, hb8_0⟩ := hS4 12 _ rfl
      refine J_callV0 (pc := 30) (M := mX6_comes) (as := [.int (nI b1)]) dX6_comes_30 fw_X4_partWith fl_X6_190 fm_X4_partWith fe_X4_partWith hc8 (by decide) rfl rfl rfl (c_X4_partWith hs (d := d - 1) (by omega) (e := e) (r := r) (q := q) hn1 hn2 hS4 (w := w4) (nI b1) (kc := 0) (ks := 0)) (by omega) (st := []) (Nat.le_of_ble_eq_true rfl) rfl (kr_P fun v7 hv7 => ?_) kx_I
      exact J_iret (pc := 33) dX6_comes_33 rfl ⟨trivial, ⟨hS4, hG4⟩⟩
    · exact JX_out (fun _ h => nomatch h) (by obtain ⟨h1, h2⟩ := hx3; exact ⟨Or.inr h1, by subst h2; exact ⟨hS.push, hG.tr Fr.push⟩⟩)
  · exact JX_out (fun _ h => nomatch h) (by obtain ⟨h1, h2⟩ := hx1; exact ⟨Or.inl h1, by subst h2; exact ⟨hS.push, hG.tr Fr.push⟩⟩)
set_option maxRecDepth 100000 in
set_option maxHeartbeats 4000000 in
theorem c_X6_pieces {X : jX} (hs : X.1.stackTraces = false) {d : Nat} (hd : 14 ≤ d) {n : Nat} {e r q : Int32} (hn1 : 2 ≤ n) (hn2 : n ≤ 7) {w : List jC} (hS : SH (rX n e r q) w) (p0 : Int32) {kc ks : Nat} (hkc : 1 ≤ kc) (hks : 6 ≤ ks) : jMet X mX6_pieces d kc ks [.ref 0, .int p0] w (pX (pI (fun _ => True) (fun w' => rS n e r q w w')) (fun E w' => (E = "java/lang/IllegalArgumentException") ∧ rS n e r q w w')) := by
  refine jMet_of hs (by decide +kernel) (Nat.le_of_ble_eq_true rfl) (L := [some (.ref 0), some (.int p0)]) rfl ?_
  have hG : Fr kX w w := Fr.rf
  refine J_iload_n (pc := 0) dX6_pieces_0 rfl rfl ?_
  refine J_callS (pc := 1) (M := mX6_pieces) (as := [.int p0]) dX6_pieces_1 fw_X6_needSet fl_X6_131 fs_X6_needSet rfl (c_X6_needSet hs (d := d - 1) (by omega) (w := w) p0 (kc := 1) (ks := 6) (Nat.le_refl _) (Nat.le_refl _)) (by omega) (by omega) (by omega) (st := []) (Nat.le_of_ble_eq_true rfl) rfl (kr_X (kr_V fun w1 hw1 => ?_)) (kx_X fun E1 w1 hx1 => ?_)
  · obtain rfl := hw1.symm
    refine J_aload_n (pc := 4) dX6_pieces_4 rfl rfl rfl ?_
    obtain ⟨_, hc2, rfl⟩ := hS 0 _ rfl
    refine J_get (pc := 5) (k := 3) dX6_pieces_5 kC7 (by decide) ff_X6_30 hc2 rfl ?_
    refine J_aload_n (pc := 8) dX6_pieces_8 rfl rfl rfl ?_
    refine J_get (pc := 9) (k := 0) dX6_pieces_9 kC7 (by decide) ff_X6_9 hc2 rfl ?_
    refine J_iload_n (pc := 12) dX6_pieces_12 rfl rfl ?_
    refine J_aload_n (pc := 13) dX6_pieces_13 rfl rfl rfl ?_
    refine J_get (pc := 14) (k := 5) dX6_pieces_14 kC7 (by decide) ff_X6_41 hc2 rfl ?_
    obtain ⟨_, hc4, ka4, rfl, hb4_0⟩ := hS 12 _ rfl
    refine J_callV0 (pc := 17) (M := mX6_pieces) (as := [.ref 1, .int p0, .int (nI n)]) dX6_pieces_17 fw_X4_joinComing fl_X6_187 fm_X4_joinComing fe_X4_joinComing hc4 (by decide) rfl rfl rfl (c_X4_joinComing hs (d := d - 1) (by omega) (e := e) (r := r) (q := q) hn1 hn2 hS (w := w) p0 (kc := 0) (ks := 0)) (by omega) (st := []) (Nat.le_of_ble_eq_true rfl) rfl (kr_V fun w3 hw3 => ?_) kx_V
    obtain ⟨hS3, hF3⟩ := hw3
    have hG3 := hG.tr hF3
    refine J_aload_n (pc := 20) dX6_pieces_20 rfl rfl rfl ?_
    obtain ⟨_, hc5, rfl⟩ := hS3 0 _ rfl
    refine J_get (pc := 21) (k := 3) dX6_pieces_21 kC7 (by decide) ff_X6_30 hc5 rfl ?_
    obtain ⟨_, hc7, ka7, rfl, hb7_0⟩ := hS3 12 _ rfl
    refine J_callV0 (pc := 24) (M := mX6_pieces) (as := []) dX6_pieces_24 fw_X4_parts fl_X6_193 fm_X4_parts fe_X4_parts hc7 (by decide) rfl rfl rfl (c_X4_parts hs (d := d - 1) (by omega) (e := e) (r := r) (q := q) hn1 hn2 hS3 (w := w3)  (kc := 0) (ks := 0)) (by omega) (st := []) (Nat.le_of_ble_eq_true rfl) rfl (kr_P fun v6 hv6 => ?_) kx_I
    exact J_iret (pc := 27) dX6_pieces_27 rfl ⟨trivial, ⟨hS3, hG3⟩⟩
  · exact JX_out (fun _ h => nomatch h) (by obtain ⟨h1, h2⟩ := hx1; exact ⟨h1, by subst h2; exact ⟨hS.push, hG.tr Fr.push⟩⟩)
set_option maxRecDepth 100000 in
set_option maxHeartbeats 4000000 in
theorem c_X6_withOrder {X : jX} (hs : X.1.stackTraces = false) {d : Nat} (hd : 14 ≤ d) {n : Nat} {e r q : Int32} (hn1 : 2 ≤ n) (hn2 : n ≤ 7) {w : List jC} (hS : SH (rX n e r q) w) (p0 : Int32) (p1 : Int32) {kc ks : Nat} (hkc : 2 ≤ kc) (hks : 12 ≤ ks) : jMet X mX6_withOrder d kc ks [.ref 0, .int p0, .int p1] w (pX (pI (fun _ => True) (fun w' => rS n e r q w w')) (fun E w' => (E = "java/lang/IllegalArgumentException") ∧ rS n e r q w w')) := by
  refine jMet_of hs (by decide +kernel) (Nat.le_of_ble_eq_true rfl) (L := [some (.ref 0), some (.int p0), some (.int p1)]) rfl ?_
  have hG : Fr kX w w := Fr.rf
  refine J_iload_n (pc := 0) dX6_withOrder_0 rfl rfl ?_
  refine J_callS (pc := 1) (M := mX6_withOrder) (as := [.int p0]) dX6_withOrder_1 fw_X6_needSet fl_X6_131 fs_X6_needSet rfl (c_X6_needSet hs (d := d - 1) (by omega) (w := w) p0 (kc := 1) (ks := 6) (Nat.le_refl _) (Nat.le_refl _)) (by omega) (by omega) (by omega) (st := []) (Nat.le_of_ble_eq_true rfl) rfl (kr_X (kr_V fun w1 hw1 => ?_)) (kx_X fun E1 w1 hx1 => ?_)
  · obtain rfl := hw1.symm
    refine J_iload_n (pc := 4) dX6_withOrder_4 rfl rfl ?_
    refine J_iconst (pc := 5) (v := nI 1) dX6_withOrder_5 (by decide) ?_
    refine J_bipush (pc := 6) (v := nI 12) dX6_withOrder_6 (by decide) ?_
    refine J_callS (pc := 8) (M := mX6_withOrder) (as := [.int p1, .int (nI 1), .int (nI 12)]) dX6_withOrder_8 fw_X6_needBetween fl_X6_63 fs_X6_needBetween rfl (c_X6_needBetween hs (d := d - 1) (by omega) (w := w) p1 (nI 1) (nI 12) (kc := 1) (ks := 6) (Nat.le_refl _) (Nat.le_refl _)) (by omega) (by omega) (by omega) (st := []) (Nat.le_of_ble_eq_true rfl) rfl (kr_X (kr_V fun w2 hw2 => ?_)) (kx_X fun E2 w2 hx2 => ?_)
    · obtain ⟨hq2, hpa2, hpb2⟩ := hw2
      obtain rfl := hq2.symm
      obtain ⟨b2, hb2, hc2, rfl⟩ := nI_btw hpa2 hpb2 (by omega) (by omega)
      refine J_aload_n (pc := 11) dX6_withOrder_11 rfl rfl rfl ?_
      obtain ⟨_, hc3, rfl⟩ := hS 0 _ rfl
      refine J_get (pc := 12) (k := 2) dX6_withOrder_12 kC7 (by decide) ff_X6_23 hc3 rfl ?_
      refine J_aload_n (pc := 15) dX6_withOrder_15 rfl rfl rfl ?_
      refine J_get (pc := 16) (k := 0) dX6_withOrder_16 kC7 (by decide) ff_X6_9 hc3 rfl ?_
      refine J_iload_n (pc := 19) dX6_withOrder_19 rfl rfl ?_
      refine J_aload_n (pc := 20) dX6_withOrder_20 rfl rfl rfl ?_
      refine J_get (pc := 21) (k := 5) dX6_withOrder_21 kC7 (by decide) ff_X6_41 hc3 rfl ?_
      obtain ⟨_, hc5, ka5, rfl, hb5_0⟩ := hS 8 _ rfl
      refine J_callV0 (pc := 24) (M := mX6_withOrder) (as := [.ref 1, .int p0, .int (nI n)]) dX6_withOrder_24 fw_X5_goThrough fl_X6_177 fm_X5_goThrough fe_X5_goThrough hc5 (by decide) rfl rfl rfl (c_X5_goThrough hs (d := d - 1) (by omega) (e := e) (r := r) (q := q) hn1 hn2 hS (w := w) p0 (kc := 0) (ks := 0)) (by omega) (st := []) (Nat.le_of_ble_eq_true rfl) rfl (kr_V fun w4 hw4 => ?_) kx_V
      obtain ⟨hS4, hF4⟩ := hw4
      have hG4 := hG.tr hF4
      refine J_aload_n (pc := 27) dX6_withOrder_27 rfl rfl rfl ?_
      obtain ⟨_, hc6, rfl⟩ := hS4 0 _ rfl
      refine J_get (pc := 28) (k := 2) dX6_withOrder_28 kC7 (by decide) ff_X6_23 hc6 rfl ?_
      refine J_iload_n (pc := 31) dX6_withOrder_31 rfl rfl ?_
      obtain ⟨_, hc8, ka8, rfl, hb8_0⟩ := hS4 8 _ rfl
      refine J_callV0 (pc := 32) (M := mX6_withOrder) (as := [.int (nI b2)]) dX6_withOrder_32 fw_X5_howManyOfOrder fl_X6_196 fm_X5_howManyOfOrder fe_X5_howManyOfOrder hc8 (by decide) rfl rfl rfl (c_X5_howManyOfOrder hs (d := d - 1) (by omega) (e := e) (r := r) (q := q) hn1 hn2 hS4 (w := w4) (nI b2) (kc := 0) (ks := 0)) (by omega) (st := []) (Nat.le_of_ble_eq_true rfl) rfl (kr_P fun v7 hv7 => ?_) kx_I
      exact J_iret (pc := 35) dX6_withOrder_35 rfl ⟨trivial, ⟨hS4, hG4⟩⟩
    · exact JX_out (fun _ h => nomatch h) (by obtain ⟨h1, h2⟩ := hx2; exact ⟨h1, by subst h2; exact ⟨hS.push, hG.tr Fr.push⟩⟩)
  · exact JX_out (fun _ h => nomatch h) (by obtain ⟨h1, h2⟩ := hx1; exact ⟨h1, by subst h2; exact ⟨hS.push, hG.tr Fr.push⟩⟩)
