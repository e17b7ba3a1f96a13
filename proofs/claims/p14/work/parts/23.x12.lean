/-! contracts of the class -/
set_option maxRecDepth 100000 in
set_option maxHeartbeats 4000000 in
theorem c_X6_shares {X : jX} (hs : X.1.stackTraces = false) {d : Nat} (hd : 14 ≤ d) {n : Nat} {e r q : Int32} (hn1 : 2 ≤ n) (hn2 : n ≤ 7) {w : List jC} (hS : SH (rX n e r q) w) (p0 : Int32) (p1 : Int32) {kc ks : Nat} (hkc : 2 ≤ kc) (hks : 12 ≤ ks) : jMet X mX6_shares d kc ks [.ref 0, .int p0, .int p1] w (pX (pI (fun _ => True) (fun w' => rS n e r q w w')) (fun E w' => (E = "java/lang/IllegalArgumentException") ∧ rS n e r q w w')) := by
  refine jMet_of hs (by decide +kernel) (Nat.le_of_ble_eq_true rfl) (L := [some (.ref 0), some (.int p0), some (.int p1), none]) rfl ?_
  have hG : Fr kX w w := Fr.rf
  refine J_iload_n (pc := 0) dX6_shares_0 rfl rfl ?_
  refine J_callS (pc := 1) (M := mX6_shares) (as := [.int p0]) dX6_shares_1 fw_X6_needSet fl_X6_131 fs_X6_needSet rfl (c_X6_needSet hs (d := d - 1) (by omega) (w := w) p0 (kc := 1) (ks := 6) (Nat.le_refl _) (Nat.le_refl _)) (by omega) (by omega) (by omega) (st := []) (Nat.le_of_ble_eq_true rfl) rfl (kr_X (kr_V fun w1 hw1 => ?_)) (kx_X fun E1 w1 hx1 => ?_)
  · obtain rfl := hw1.symm
    refine J_iload_n (pc := 4) dX6_shares_4 rfl rfl ?_
    refine J_callS (pc := 5) (M := mX6_shares) (as := [.int p1]) dX6_shares_5 fw_X6_needSet fl_X6_131 fs_X6_needSet rfl (c_X6_needSet hs (d := d - 1) (by omega) (w := w) p1 (kc := 1) (ks := 6) (Nat.le_refl _) (Nat.le_refl _)) (by omega) (by omega) (by omega) (st := []) (Nat.le_of_ble_eq_true rfl) rfl (kr_X (kr_V fun w2 hw2 => ?_)) (kx_X fun E2 w2 hx2 => ?_)
    · obtain rfl := hw2.symm
      refine J_aload_n (pc := 8) dX6_shares_8 rfl rfl rfl ?_
      obtain ⟨_, hc3, rfl⟩ := hS 0 _ rfl
      refine J_get (pc := 9) (k := 1) dX6_shares_9 kC7 (by decide) ff_X6_16 hc3 rfl ?_
      refine J_aload_n (pc := 12) dX6_shares_12 rfl rfl rfl ?_
      refine J_get (pc := 13) (k := 0) dX6_shares_13 kC7 (by decide) ff_X6_9 hc3 rfl ?_
      refine J_iload_n (pc := 16) dX6_shares_16 rfl rfl ?_
      refine J_ldc (pc := 17) (v := nI 1754760) dX6_shares_17 (by have := fk_X6_56; exact this) ?_
      refine J_aload_n (pc := 19) dX6_shares_19 rfl rfl rfl ?_
      refine J_get (pc := 20) (k := 5) dX6_shares_20 kC7 (by decide) ff_X6_41 hc3 rfl ?_
      obtain ⟨_, hc5, ka5, kf5, kb5, kg5, rfl, hb5_0, hb5_1⟩ := hS 2 _ rfl
      refine J_callV0 (pc := 23) (M := mX6_shares) (as := [.ref 1, .int p1, .int (nI 1754760), .int (nI n)]) dX6_shares_23 fw_X0_raise fl_X6_134 fm_X0_raise fe_X0_raise hc5 (by decide) rfl rfl rfl (c_X0_raise hs (d := d - 1) (by omega) (e := e) (r := r) (q := q) hn1 hn2 hS (w := w) p1 (nI 1754760) (kc := 0) (ks := 0)) (by omega) (st := []) (Nat.le_of_ble_eq_true rfl) rfl (kr_V fun w4 hw4 => ?_) kx_V
      obtain ⟨hS4, hF4⟩ := hw4
      have hG4 := hG.tr hF4
      refine J_aload_n (pc := 26) dX6_shares_26 rfl rfl rfl ?_
      obtain ⟨_, hc6, rfl⟩ := hS4 0 _ rfl
      refine J_get (pc := 27) (k := 1) dX6_shares_27 kC7 (by decide) ff_X6_16 hc6 rfl ?_
      refine J_aload_n (pc := 30) dX6_shares_30 rfl rfl rfl ?_
      refine J_get (pc := 31) (k := 0) dX6_shares_31 kC7 (by decide) ff_X6_9 hc6 rfl ?_
      refine J_iload_n (pc := 34) dX6_shares_34 rfl rfl ?_
      obtain ⟨_, hc8, ka8, kf8, kb8, kg8, rfl, hb8_0, hb8_1⟩ := hS4 2 _ rfl
      refine J_callV0 (pc := 35) (M := mX6_shares) (as := [.ref 1, .int p0]) dX6_shares_35 fw_X0_holdsAll fl_X6_209 fm_X0_holdsAll fe_X0_holdsAll hc8 (by decide) rfl rfl rfl (c_X0_holdsAll hs (d := d - 1) (by omega) (e := e) (r := r) (q := q) hn1 hn2 hS4 (w := w4) p0 (kc := 0) (ks := 0)) (by omega) (st := []) (Nat.le_of_ble_eq_true rfl) rfl (kr_P fun v7 hv7 => ?_) kx_I
      obtain ⟨k7, rfl, hk7⟩ := hv7
      refine J_if_neN (pc := 38) (tgt := 44) dX6_shares_38 (by decide) (by omega) (fun ht9 => ?_) (fun hf10 => ?_)
      · refine J_aload_n (pc := 44) dX6_shares_44 rfl rfl rfl ?_
        refine J_get (pc := 45) (k := 1) dX6_shares_45 kC7 (by decide) ff_X6_16 hc6 rfl ?_
        refine J_callV0 (pc := 48) (M := mX6_shares) (as := []) dX6_shares_48 fw_X0_total fl_X6_138 fm_X0_total fe_X0_total hc8 (by decide) rfl rfl rfl (c_X0_total hs (d := d - 1) (by omega) (e := e) (r := r) (q := q) hn1 hn2 hS4 (w := w4)  (kc := 0) (ks := 0)) (by omega) (st := []) (Nat.le_of_ble_eq_true rfl) rfl (kr_P fun v11 hv11 => ?_) kx_I
        refine J_istore_n (pc := 51) dX6_shares_51 rfl (by decide) rfl ?_
        show J X mX6_shares d (kc - 1 - 1) (ks - 6 - 6) 52 [some (.ref 0), some (.int p0), some (.int p1), some (.int v11)] [] w4 _
        refine J_aload_n (pc := 52) dX6_shares_52 rfl rfl rfl ?_
        refine J_get (pc := 53) (k := 1) dX6_shares_53 kC7 (by decide) ff_X6_16 hc6 rfl ?_
        refine J_aload_n (pc := 56) dX6_shares_56 rfl rfl rfl ?_
        refine J_get (pc := 57) (k := 0) dX6_shares_57 kC7 (by decide) ff_X6_9 hc6 rfl ?_
        refine J_iload_n (pc := 60) dX6_shares_60 rfl rfl ?_
        refine J_ldc (pc := 61) (v := nI 1754760) dX6_shares_61 (by have := fk_X6_56; exact this) ?_
        refine J_aload_n (pc := 63) dX6_shares_63 rfl rfl rfl ?_
        refine J_get (pc := 64) (k := 5) dX6_shares_64 kC7 (by decide) ff_X6_41 hc6 rfl ?_
        refine J_callV0 (pc := 67) (M := mX6_shares) (as := [.ref 1, .int p0, .int (nI 1754760), .int (nI n)]) dX6_shares_67 fw_X0_raise fl_X6_134 fm_X0_raise fe_X0_raise hc8 (by decide) rfl rfl rfl (c_X0_raise hs (d := d - 1) (by omega) (e := e) (r := r) (q := q) hn1 hn2 hS4 (w := w4) p0 (nI 1754760) (kc := 0) (ks := 0)) (by omega) (st := []) (Nat.le_of_ble_eq_true rfl) rfl (kr_V fun w12 hw12 => ?_) kx_V
        obtain ⟨hS12, hF12⟩ := hw12
        have hG12 := hG4.tr hF12
        refine J_iload_n (pc := 70) dX6_shares_70 rfl rfl ?_
        refine J_aload_n (pc := 71) dX6_shares_71 rfl rfl rfl ?_
        obtain ⟨_, hc13, rfl⟩ := hS12 0 _ rfl
        refine J_get (pc := 72) (k := 1) dX6_shares_72 kC7 (by decide) ff_X6_16 hc13 rfl ?_
        obtain ⟨_, hc15, ka15, kf15, kb15, kg15, rfl, hb15_0, hb15_1⟩ := hS12 2 _ rfl
        refine J_callV0 (pc := 75) (M := mX6_shares) (as := []) dX6_shares_75 fw_X0_total fl_X6_138 fm_X0_total fe_X0_total hc15 (by decide) rfl rfl rfl (c_X0_total hs (d := d - 1) (by omega) (e := e) (r := r) (q := q) hn1 hn2 hS12 (w := w12)  (kc := 0) (ks := 0)) (by omega) (st := [.int v11]) (Nat.le_of_ble_eq_true rfl) rfl (kr_P fun v14 hv14 => ?_) kx_I
        refine J_callS0 (pc := 78) (M := mX6_shares) (as := [.int v11, .int v14]) dX6_shares_78 fw_X6_quotient fl_X6_213 fs_X6_quotient rfl (c_X6_quotient hs (d := d - 1) (by omega) (w := w12) v11 v14 (kc := 0) (ks := 0)) (by omega) (st := []) (Nat.le_of_ble_eq_true rfl) rfl (kr_P fun v16 hv16 => ?_) kx_I
        exact J_iret (pc := 81) dX6_shares_81 rfl ⟨trivial, ⟨hS12, hG12⟩⟩
      · refine J_bipush (pc := 41) (v := (-9)) dX6_shares_41 (by decide) ?_
        exact J_iret (pc := 43) dX6_shares_43 rfl ⟨trivial, ⟨hS4, hG4⟩⟩
    · exact JX_out (fun _ h => nomatch h) (by obtain ⟨h1, h2⟩ := hx2; exact ⟨h1, by subst h2; exact ⟨hS.push, hG.tr Fr.push⟩⟩)
  · exact JX_out (fun _ h => nomatch h) (by obtain ⟨h1, h2⟩ := hx1; exact ⟨h1, by subst h2; exact ⟨hS.push, hG.tr Fr.push⟩⟩)
set_option maxRecDepth 100000 in
set_option maxHeartbeats 4000000 in
theorem c_X6_share {X : jX} (hs : X.1.stackTraces = false) {d : Nat} (hd : 14 ≤ d) {n : Nat} {e r q : Int32} (hn1 : 2 ≤ n) (hn2 : n ≤ 7) {w : List jC} (hS : SH (rX n e r q) w) (p0 : Int32) (p1 : Int32) {kc ks : Nat} (hkc : 2 ≤ kc) (hks : 12 ≤ ks) : jMet X mX6_share d kc ks [.ref 0, .int p0, .int p1] w (pX (pI (fun _ => True) (fun w' => rS n e r q w w')) (fun E w' => (E = "java/lang/IndexOutOfBoundsException" ∨ E = "java/lang/IllegalArgumentException") ∧ rS n e r q w w')) := by
  refine jMet_of hs (by decide +kernel) (Nat.le_of_ble_eq_true rfl) (L := [some (.ref 0), some (.int p0), some (.int p1)]) rfl ?_
  have hG : Fr kX w w := Fr.rf
  refine J_iload_n (pc := 0) dX6_share_0 rfl rfl ?_
  refine J_callS (pc := 1) (M := mX6_share) (as := [.int p1]) dX6_share_1 fw_X6_needCell fl_X6_67 fs_X6_needCell rfl (c_X6_needCell hs (d := d - 1) (by omega) (w := w) p1 (kc := 1) (ks := 6) (Nat.le_refl _) (Nat.le_refl _)) (by omega) (by omega) (by omega) (st := []) (Nat.le_of_ble_eq_true rfl) rfl (kr_X (kr_V fun w1 hw1 => ?_)) (kx_X fun E1 w1 hx1 => ?_)
  · obtain ⟨hq1, hp1⟩ := hw1
    obtain rfl := hq1.symm
    obtain ⟨b1, hb1, rfl⟩ := hp1
    refine J_iload_n (pc := 4) dX6_share_4 rfl rfl ?_
    refine J_callS (pc := 5) (M := mX6_share) (as := [.int p0]) dX6_share_5 fw_X6_needSet fl_X6_131 fs_X6_needSet rfl (c_X6_needSet hs (d := d - 1) (by omega) (w := w) p0 (kc := 1) (ks := 6) (Nat.le_refl _) (Nat.le_refl _)) (by omega) (by omega) (by omega) (st := []) (Nat.le_of_ble_eq_true rfl) rfl (kr_X (kr_V fun w2 hw2 => ?_)) (kx_X fun E2 w2 hx2 => ?_)
    · obtain rfl := hw2.symm
      refine J_aload_n (pc := 8) dX6_share_8 rfl rfl rfl ?_
      obtain ⟨_, hc3, rfl⟩ := hS 0 _ rfl
      refine J_get (pc := 9) (k := 1) dX6_share_9 kC7 (by decide) ff_X6_16 hc3 rfl ?_
      refine J_aload_n (pc := 12) dX6_share_12 rfl rfl rfl ?_
      refine J_get (pc := 13) (k := 0) dX6_share_13 kC7 (by decide) ff_X6_9 hc3 rfl ?_
      refine J_iload_n (pc := 16) dX6_share_16 rfl rfl ?_
      refine J_ldc (pc := 17) (v := nI 1754760) dX6_share_17 (by have := fk_X6_56; exact this) ?_
      refine J_aload_n (pc := 19) dX6_share_19 rfl rfl rfl ?_
      refine J_get (pc := 20) (k := 5) dX6_share_20 kC7 (by decide) ff_X6_41 hc3 rfl ?_
      obtain ⟨_, hc5, ka5, kf5, kb5, kg5, rfl, hb5_0, hb5_1⟩ := hS 2 _ rfl
      refine J_callV0 (pc := 23) (M := mX6_share) (as := [.ref 1, .int p0, .int (nI 1754760), .int (nI n)]) dX6_share_23 fw_X0_raise fl_X6_134 fm_X0_raise fe_X0_raise hc5 (by decide) rfl rfl rfl (c_X0_raise hs (d := d - 1) (by omega) (e := e) (r := r) (q := q) hn1 hn2 hS (w := w) p0 (nI 1754760) (kc := 0) (ks := 0)) (by omega) (st := []) (Nat.le_of_ble_eq_true rfl) rfl (kr_V fun w4 hw4 => ?_) kx_V
      obtain ⟨hS4, hF4⟩ := hw4
      have hG4 := hG.tr hF4
      refine J_aload_n (pc := 26) dX6_share_26 rfl rfl rfl ?_
      obtain ⟨_, hc6, rfl⟩ := hS4 0 _ rfl
      refine J_get (pc := 27) (k := 1) dX6_share_27 kC7 (by decide) ff_X6_16 hc6 rfl ?_
      refine J_iconst (pc := 30) (v := nI 0) dX6_share_30 (by decide) ?_
      refine J_aload_n (pc := 31) dX6_share_31 rfl rfl rfl ?_
      refine J_get (pc := 32) (k := 0) dX6_share_32 kC7 (by decide) ff_X6_9 hc6 rfl ?_
      refine J_iload_n (pc := 35) dX6_share_35 rfl rfl ?_
      obtain ⟨_, hc7, xs7, rfl, hl7⟩ := hS4 1 _ rfl
      refine J_iald (pc := 36) dX6_share_36 hc7 (nI_in (by omega) (by omega)) (J_absI fun x8 => ?_)
      obtain ⟨_, hc10, ka10, kf10, kb10, kg10, rfl, hb10_0, hb10_1⟩ := hS4 2 _ rfl
      refine J_callV0 (pc := 37) (M := mX6_share) (as := [.int (nI 0), .int x8]) dX6_share_37 fw_X0_moveAt fl_X6_141 fm_X0_moveAt fe_X0_moveAt hc10 (by decide) rfl rfl rfl (c_X0_moveAt hs (d := d - 1) (by omega) (e := e) (r := r) (q := q) hn1 hn2 hS4 (w := w4) (nI 0) x8 (kc := 0) (ks := 0)) (by omega) (st := []) (Nat.le_of_ble_eq_true rfl) rfl (kr_P fun v9 hv9 => ?_) kx_I
      refine J_aload_n (pc := 40) dX6_share_40 rfl rfl rfl ?_
      refine J_get (pc := 41) (k := 5) dX6_share_41 kC7 (by decide) ff_X6_41 hc6 rfl ?_
      refine J_callS0 (pc := 44) (M := mX6_share) (as := [.int v9, .int (nI n)]) dX6_share_44 fw_X2_numberOf fl_X6_75 fs_X2_numberOf rfl (c_X2_numberOf hs (d := d - 1) (by omega) (w := w4) v9 n (by omega) (kc := 0) (ks := 0)) (by omega) (st := []) (Nat.le_of_ble_eq_true rfl) rfl (kr_P fun v11 hv11 => ?_) kx_I
      exact J_iret (pc := 47) dX6_share_47 rfl ⟨trivial, ⟨hS4, hG4⟩⟩
    · exact JX_out (fun _ h => nomatch h) (by obtain ⟨h1, h2⟩ := hx2; exact ⟨Or.inr h1, by subst h2; exact ⟨hS.push, hG.tr Fr.push⟩⟩)
  · exact JX_out (fun _ h => nomatch h) (by obtain ⟨h1, h2⟩ := hx1; exact ⟨Or.inl h1, by subst h2; exact ⟨hS.push, hG.tr Fr.push⟩⟩)
set_option maxRecDepth 100000 in
set_option maxHeartbeats 4000000 in
theorem c_X6_together {X : jX} (hs : X.1.stackTraces = false) {d : Nat} (hd : 14 ≤ d) {n : Nat} {e r q : Int32} (hn1 : 2 ≤ n) (hn2 : n ≤ 7) {w : List jC} (hS : SH (rX n e r q) w) (p0 : Int32) (p1 : Int32) (p2 : Int32) {kc ks : Nat} (hkc : 3 ≤ kc) (hks : 18 ≤ ks) : jMet X mX6_together d kc ks [.ref 0, .int p0, .int p1, .int p2] w (pX (pI (fun _ => True) (fun w' => rS n e r q w w')) (fun E w' => (E = "java/lang/IndexOutOfBoundsException" ∨ E = "java/lang/IllegalArgumentException") ∧ rS n e r q w w')) := by
  refine jMet_of hs (by decide +kernel) (Nat.le_of_ble_eq_true rfl) (L := [some (.ref 0), some (.int p0), some (.int p1), some (.int p2)]) rfl ?_
  have hG : Fr kX w w := Fr.rf
  refine J_aload_n (pc := 0) dX6_together_0 rfl rfl rfl ?_
  refine J_iload_n (pc := 1) dX6_together_1 rfl rfl ?_
  obtain ⟨_, hc2, rfl⟩ := hS 0 _ rfl
  refine J_callV (pc := 2) (M := mX6_together) (as := [.int p1]) dX6_together_2 fw_X6_needPoint fl_X6_86 fm_X6_needPoint fe_X6_needPoint hc2 (by decide) rfl rfl rfl (c_X6_needPoint hs (d := d - 1) (by omega) (e := e) (r := r) (q := q) hn1 hn2 hS (w := w) p1 (kc := 1) (ks := 6) (Nat.le_refl _) (Nat.le_refl _)) (by omega) (by omega) (by omega) (st := []) (Nat.le_of_ble_eq_true rfl) rfl (kr_X (kr_V fun w1 hw1 => ?_)) (kx_X fun E1 w1 hx1 => ?_)
  · obtain ⟨hq1, hp1⟩ := hw1
    obtain rfl := hq1.symm
    obtain ⟨b1, hb1, rfl⟩ := hp1
    refine J_aload_n (pc := 5) dX6_together_5 rfl rfl rfl ?_
    refine J_iload_n (pc := 6) dX6_together_6 rfl rfl ?_
    refine J_callV (pc := 7) (M := mX6_together) (as := [.int p2]) dX6_together_7 fw_X6_needPoint fl_X6_86 fm_X6_needPoint fe_X6_needPoint hc2 (by decide) rfl rfl rfl (c_X6_needPoint hs (d := d - 1) (by omega) (e := e) (r := r) (q := q) hn1 hn2 hS (w := w) p2 (kc := 1) (ks := 6) (Nat.le_refl _) (Nat.le_refl _)) (by omega) (by omega) (by omega) (st := []) (Nat.le_of_ble_eq_true rfl) rfl (kr_X (kr_V fun w3 hw3 => ?_)) (kx_X fun E3 w3 hx3 => ?_)
    · obtain ⟨hq3, hp3⟩ := hw3
      obtain rfl := hq3.symm
      obtain ⟨b3, hb3, rfl⟩ := hp3
      refine J_iload_n (pc := 10) dX6_together_10 rfl rfl ?_
      refine J_callS (pc := 11) (M := mX6_together) (as := [.int p0]) dX6_together_11 fw_X6_needSet fl_X6_131 fs_X6_needSet rfl (c_X6_needSet hs (d := d - 1) (by omega) (w := w) p0 (kc := 1) (ks := 6) (Nat.le_refl _) (Nat.le_refl _)) (by omega) (by omega) (by omega) (st := []) (Nat.le_of_ble_eq_true rfl) rfl (kr_X (kr_V fun w4 hw4 => ?_)) (kx_X fun E4 w4 hx4 => ?_)
      · obtain rfl := hw4.symm
        refine J_aload_n (pc := 14) dX6_together_14 rfl rfl rfl ?_
        refine J_get (pc := 15) (k := 3) dX6_together_15 kC7 (by decide) ff_X6_30 hc2 rfl ?_
        refine J_aload_n (pc := 18) dX6_together_18 rfl rfl rfl ?_
        refine J_get (pc := 19) (k := 0) dX6_together_19 kC7 (by decide) ff_X6_9 hc2 rfl ?_
        refine J_iload_n (pc := 22) dX6_together_22 rfl rfl ?_
        refine J_iload_n (pc := 23) dX6_together_23 rfl rfl ?_
        refine J_iload_n (pc := 24) dX6_together_24 rfl rfl ?_
        refine J_aload_n (pc := 25) dX6_together_25 rfl rfl rfl ?_
        refine J_get (pc := 26) (k := 5) dX6_together_26 kC7 (by decide) ff_X6_41 hc2 rfl ?_
        obtain ⟨_, hc6, ka6, rfl, hb6_0⟩ := hS 12 _ rfl
        refine J_callV0 (pc := 29) (M := mX6_together) (as := [.ref 1, .int p0, .int (nI b1), .int (nI b3), .int (nI n)]) dX6_together_29 fw_X4_joinBlocks fl_X6_216 fm_X4_joinBlocks fe_X4_joinBlocks hc6 (by decide) rfl rfl rfl (c_X4_joinBlocks hs (d := d - 1) (by omega) (e := e) (r := r) (q := q) hn1 hn2 hS (w := w) p0 b1 b3 (by omega) (by omega) (kc := 0) (ks := 0)) (by omega) (st := []) (Nat.le_of_ble_eq_true rfl) rfl (kr_V fun w5 hw5 => ?_) kx_V
        obtain ⟨hS5, hF5⟩ := hw5
        have hG5 := hG.tr hF5
        refine J_aload_n (pc := 32) dX6_together_32 rfl rfl rfl ?_
        obtain ⟨_, hc7, rfl⟩ := hS5 0 _ rfl
        refine J_get (pc := 33) (k := 3) dX6_together_33 kC7 (by decide) ff_X6_30 hc7 rfl ?_
        refine J_iload_n (pc := 36) dX6_together_36 rfl rfl ?_
        obtain ⟨_, hc9, ka9, rfl, hb9_0⟩ := hS5 12 _ rfl
        refine J_callV0 (pc := 37) (M := mX6_together) (as := [.int (nI b1)]) dX6_together_37 fw_X4_partWith fl_X6_190 fm_X4_partWith fe_X4_partWith hc9 (by decide) rfl rfl rfl (c_X4_partWith hs (d := d - 1) (by omega) (e := e) (r := r) (q := q) hn1 hn2 hS5 (w := w5) (nI b1) (kc := 0) (ks := 0)) (by omega) (st := []) (Nat.le_of_ble_eq_true rfl) rfl (kr_P fun v8 hv8 => ?_) kx_I
        exact J_iret (pc := 40) dX6_together_40 rfl ⟨trivial, ⟨hS5, hG5⟩⟩
      · exact JX_out (fun _ h => nomatch h) (by obtain ⟨h1, h2⟩ := hx4; exact ⟨Or.inr h1, by subst h2; exact ⟨hS.push, hG.tr Fr.push⟩⟩)
    · exact JX_out (fun _ h => nomatch h) (by obtain ⟨h1, h2⟩ := hx3; exact ⟨Or.inl h1, by subst h2; exact ⟨hS.push, hG.tr Fr.push⟩⟩)
  · exact JX_out (fun _ h => nomatch h) (by obtain ⟨h1, h2⟩ := hx1; exact ⟨Or.inl h1, by subst h2; exact ⟨hS.push, hG.tr Fr.push⟩⟩)
