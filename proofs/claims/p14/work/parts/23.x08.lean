/-! contracts of the class -/
set_option maxRecDepth 100000 in
set_option maxHeartbeats 4000000 in
theorem c_X6_areAlike {X : jX} (hs : X.1.stackTraces = false) {d : Nat} (hd : 12 ≤ d) {n : Nat} {e r q : Int32} (hn1 : 2 ≤ n) (hn2 : n ≤ 7) {w : List jC} (hS : SH (rX n e r q) w) (p0 : Int32) (p1 : Int32) {kc ks : Nat} (hkc : 2 ≤ kc) (hks : 12 ≤ ks) : jMet X mX6_areAlike d kc ks [.ref 0, .int p0, .int p1] w (pX (pI (fun v => ∃ k : Nat, v = nI k ∧ k < 2) (fun w' => w' = w)) (fun E w' => (E = "java/lang/IndexOutOfBoundsException") ∧ w' = w ++ [.inr (99, [])])) := by
  refine jMet_of hs (by decide +kernel) (Nat.le_of_ble_eq_true rfl) (L := [some (.ref 0), some (.int p0), some (.int p1)]) rfl ?_
  have hG : Fr kX w w := Fr.rf
  refine J_iload_n (pc := 0) dX6_areAlike_0 rfl rfl ?_
  refine J_callS (pc := 1) (M := mX6_areAlike) (as := [.int p0]) dX6_areAlike_1 fw_X6_needCell fl_X6_67 fs_X6_needCell rfl (c_X6_needCell hs (d := d - 1) (by omega) (w := w) p0 (kc := 1) (ks := 6) (Nat.le_refl _) (Nat.le_refl _)) (by omega) (by omega) (by omega) (st := []) (Nat.le_of_ble_eq_true rfl) rfl (kr_X (kr_V fun w1 hw1 => ?_)) (kx_X fun E1 w1 hx1 => ?_)
  · obtain ⟨hq1, hp1⟩ := hw1
    obtain rfl := hq1.symm
    obtain ⟨b1, hb1, rfl⟩ := hp1
    refine J_iload_n (pc := 4) dX6_areAlike_4 rfl rfl ?_
    refine J_callS (pc := 5) (M := mX6_areAlike) (as := [.int p1]) dX6_areAlike_5 fw_X6_needCell fl_X6_67 fs_X6_needCell rfl (c_X6_needCell hs (d := d - 1) (by omega) (w := w) p1 (kc := 1) (ks := 6) (Nat.le_refl _) (Nat.le_refl _)) (by omega) (by omega) (by omega) (st := []) (Nat.le_of_ble_eq_true rfl) rfl (kr_X (kr_V fun w2 hw2 => ?_)) (kx_X fun E2 w2 hx2 => ?_)
    · obtain ⟨hq2, hp2⟩ := hw2
      obtain rfl := hq2.symm
      obtain ⟨b2, hb2, rfl⟩ := hp2
      refine J_aload_n (pc := 8) dX6_areAlike_8 rfl rfl rfl ?_
      obtain ⟨_, hc3, rfl⟩ := hS 0 _ rfl
      refine J_get (pc := 9) (k := 0) dX6_areAlike_9 kC7 (by decide) ff_X6_9 hc3 rfl ?_
      refine J_iload_n (pc := 12) dX6_areAlike_12 rfl rfl ?_
      obtain ⟨_, hc4, xs4, rfl, hl4⟩ := hS 1 _ rfl
      refine J_iald (pc := 13) dX6_areAlike_13 hc4 (nI_in (by omega) (by omega)) (J_absI fun x5 => ?_)
      refine J_aload_n (pc := 14) dX6_areAlike_14 rfl rfl rfl ?_
      refine J_get (pc := 15) (k := 0) dX6_areAlike_15 kC7 (by decide) ff_X6_9 hc3 rfl ?_
      refine J_iload_n (pc := 18) dX6_areAlike_18 rfl rfl ?_
      refine J_iald (pc := 19) dX6_areAlike_19 hc4 (nI_in (by omega) (by omega)) (J_absI fun x6 => ?_)
      refine J_callS0 (pc := 20) (M := mX6_areAlike) (as := [.int x5, .int x6]) dX6_areAlike_20 fw_X2_haveLikeRings fl_X6_120 fs_X2_haveLikeRings rfl (c_X2_haveLikeRings hs (d := d - 1) (by omega) (w := w) x5 x6 (kc := 0) (ks := 0)) (by omega) (st := []) (Nat.le_of_ble_eq_true rfl) rfl (kr_P fun v7 hv7 => ?_) kx_I
      obtain ⟨k7, rfl, hk7⟩ := hv7
      exact J_zret (pc := 23) dX6_areAlike_23 rfl (nar_b (by omega)) ⟨⟨k7, rfl, by omega⟩, rfl⟩
    · exact JX_out (fun _ h => nomatch h) (by obtain ⟨h1, h2⟩ := hx2; exact ⟨h1, h2⟩)
  · exact JX_out (fun _ h => nomatch h) (by obtain ⟨h1, h2⟩ := hx1; exact ⟨h1, h2⟩)
set_option maxRecDepth 100000 in
set_option maxHeartbeats 4000000 in
theorem c_X6_commute {X : jX} (hs : X.1.stackTraces = false) {d : Nat} (hd : 12 ≤ d) {n : Nat} {e r q : Int32} (hn1 : 2 ≤ n) (hn2 : n ≤ 7) {w : List jC} (hS : SH (rX n e r q) w) (p0 : Int32) (p1 : Int32) {kc ks : Nat} (hkc : 2 ≤ kc) (hks : 12 ≤ ks) : jMet X mX6_commute d kc ks [.ref 0, .int p0, .int p1] w (pX (pI (fun v => ∃ k : Nat, v = nI k ∧ k < 2) (fun w' => w' = w)) (fun E w' => (E = "java/lang/IndexOutOfBoundsException") ∧ w' = w ++ [.inr (99, [])])) := by
  refine jMet_of hs (by decide +kernel) (Nat.le_of_ble_eq_true rfl) (L := [some (.ref 0), some (.int p0), some (.int p1)]) rfl ?_
  have hG : Fr kX w w := Fr.rf
  refine J_iload_n (pc := 0) dX6_commute_0 rfl rfl ?_
  refine J_callS (pc := 1) (M := mX6_commute) (as := [.int p0]) dX6_commute_1 fw_X6_needCell fl_X6_67 fs_X6_needCell rfl (c_X6_needCell hs (d := d - 1) (by omega) (w := w) p0 (kc := 1) (ks := 6) (Nat.le_refl _) (Nat.le_refl _)) (by omega) (by omega) (by omega) (st := []) (Nat.le_of_ble_eq_true rfl) rfl (kr_X (kr_V fun w1 hw1 => ?_)) (kx_X fun E1 w1 hx1 => ?_)
  · obtain ⟨hq1, hp1⟩ := hw1
    obtain rfl := hq1.symm
    obtain ⟨b1, hb1, rfl⟩ := hp1
    refine J_iload_n (pc := 4) dX6_commute_4 rfl rfl ?_
    refine J_callS (pc := 5) (M := mX6_commute) (as := [.int p1]) dX6_commute_5 fw_X6_needCell fl_X6_67 fs_X6_needCell rfl (c_X6_needCell hs (d := d - 1) (by omega) (w := w) p1 (kc := 1) (ks := 6) (Nat.le_refl _) (Nat.le_refl _)) (by omega) (by omega) (by omega) (st := []) (Nat.le_of_ble_eq_true rfl) rfl (kr_X (kr_V fun w2 hw2 => ?_)) (kx_X fun E2 w2 hx2 => ?_)
    · obtain ⟨hq2, hp2⟩ := hw2
      obtain rfl := hq2.symm
      obtain ⟨b2, hb2, rfl⟩ := hp2
      refine J_aload_n (pc := 8) dX6_commute_8 rfl rfl rfl ?_
      obtain ⟨_, hc3, rfl⟩ := hS 0 _ rfl
      refine J_get (pc := 9) (k := 0) dX6_commute_9 kC7 (by decide) ff_X6_9 hc3 rfl ?_
      refine J_iload_n (pc := 12) dX6_commute_12 rfl rfl ?_
      obtain ⟨_, hc4, xs4, rfl, hl4⟩ := hS 1 _ rfl
      refine J_iald (pc := 13) dX6_commute_13 hc4 (nI_in (by omega) (by omega)) (J_absI fun x5 => ?_)
      refine J_aload_n (pc := 14) dX6_commute_14 rfl rfl rfl ?_
      refine J_get (pc := 15) (k := 0) dX6_commute_15 kC7 (by decide) ff_X6_9 hc3 rfl ?_
      refine J_iload_n (pc := 18) dX6_commute_18 rfl rfl ?_
      refine J_iald (pc := 19) dX6_commute_19 hc4 (nI_in (by omega) (by omega)) (J_absI fun x6 => ?_)
      refine J_callS0 (pc := 20) (M := mX6_commute) (as := [.int x5, .int x6]) dX6_commute_20 fw_X2_both fl_X6_93 fs_X2_both rfl (c_X2_both hs (d := d - 1) (by omega) (w := w) x5 x6 (kc := 0) (ks := 0)) (by omega) (st := []) (Nat.le_of_ble_eq_true rfl) rfl (kr_P fun v7 hv7 => ?_) kx_I
      refine J_aload_n (pc := 23) dX6_commute_23 rfl rfl rfl ?_
      refine J_get (pc := 24) (k := 0) dX6_commute_24 kC7 (by decide) ff_X6_9 hc3 rfl ?_
      refine J_iload_n (pc := 27) dX6_commute_27 rfl rfl ?_
      refine J_iald (pc := 28) dX6_commute_28 hc4 (nI_in (by omega) (by omega)) (J_absI fun x8 => ?_)
      refine J_aload_n (pc := 29) dX6_commute_29 rfl rfl rfl ?_
      refine J_get (pc := 30) (k := 0) dX6_commute_30 kC7 (by decide) ff_X6_9 hc3 rfl ?_
      refine J_iload_n (pc := 33) dX6_commute_33 rfl rfl ?_
      refine J_iald (pc := 34) dX6_commute_34 hc4 (nI_in (by omega) (by omega)) (J_absI fun x9 => ?_)
      refine J_callS0 (pc := 35) (M := mX6_commute) (as := [.int x8, .int x9]) dX6_commute_35 fw_X2_both fl_X6_93 fs_X2_both rfl (c_X2_both hs (d := d - 1) (by omega) (w := w) x8 x9 (kc := 0) (ks := 0)) (by omega) (st := [.int v7]) (Nat.le_of_ble_eq_true rfl) rfl (kr_P fun v10 hv10 => ?_) kx_I
      refine J_icmp_ne (pc := 38) (tgt := 45) dX6_commute_38 (by decide) (fun ht11 => ?_) (fun hf12 => ?_)
      · refine J_iconst (pc := 45) (v := nI 0) dX6_commute_45 (by decide) ?_
        exact J_zret (pc := 46) dX6_commute_46 rfl (nar_b (by omega)) ⟨⟨0, rfl, by omega⟩, rfl⟩
      · refine J_iconst (pc := 41) (v := nI 1) dX6_commute_41 (by decide) ?_
        refine J_goto (pc := 42) (tgt := 46) dX6_commute_42 (by decide) ?_
        exact J_zret (pc := 46) dX6_commute_46 rfl (nar_b (by omega)) ⟨⟨1, rfl, by omega⟩, rfl⟩
    · exact JX_out (fun _ h => nomatch h) (by obtain ⟨h1, h2⟩ := hx2; exact ⟨h1, h2⟩)
  · exact JX_out (fun _ h => nomatch h) (by obtain ⟨h1, h2⟩ := hx1; exact ⟨h1, h2⟩)
set_option maxRecDepth 100000 in
set_option maxHeartbeats 4000000 in
theorem c_X6_size {X : jX} (hs : X.1.stackTraces = false) {d : Nat} (hd : 14 ≤ d) {n : Nat} {e r q : Int32} (hn1 : 2 ≤ n) (hn2 : n ≤ 7) {w : List jC} (hS : SH (rX n e r q) w) (p0 : Int32) (p1 : Int32) {kc ks : Nat} (hkc : 2 ≤ kc) (hks : 12 ≤ ks) : jMet X mX6_size d kc ks [.ref 0, .int p0, .int p1] w (pX (pI (fun _ => True) (fun w' => rS n e r q w w')) (fun E w' => (E = "java/lang/IndexOutOfBoundsException" ∨ E = "java/lang/IllegalArgumentException") ∧ rS n e r q w w')) := by
  refine jMet_of hs (by decide +kernel) (Nat.le_of_ble_eq_true rfl) (L := [some (.ref 0), some (.int p0), some (.int p1)]) rfl ?_
  have hG : Fr kX w w := Fr.rf
  refine J_iload_n (pc := 0) dX6_size_0 rfl rfl ?_
  refine J_callS (pc := 1) (M := mX6_size) (as := [.int p1]) dX6_size_1 fw_X6_needCell fl_X6_67 fs_X6_needCell rfl (c_X6_needCell hs (d := d - 1) (by omega) (w := w) p1 (kc := 1) (ks := 6) (Nat.le_refl _) (Nat.le_refl _)) (by omega) (by omega) (by omega) (st := []) (Nat.le_of_ble_eq_true rfl) rfl (kr_X (kr_V fun w1 hw1 => ?_)) (kx_X fun E1 w1 hx1 => ?_)
  · obtain ⟨hq1, hp1⟩ := hw1
    obtain rfl := hq1.symm
    obtain ⟨b1, hb1, rfl⟩ := hp1
    refine J_iload_n (pc := 4) dX6_size_4 rfl rfl ?_
    refine J_callS (pc := 5) (M := mX6_size) (as := [.int p0]) dX6_size_5 fw_X6_needSet fl_X6_131 fs_X6_needSet rfl (c_X6_needSet hs (d := d - 1) (by omega) (w := w) p0 (kc := 1) (ks := 6) (Nat.le_refl _) (Nat.le_refl _)) (by omega) (by omega) (by omega) (st := []) (Nat.le_of_ble_eq_true rfl) rfl (kr_X (kr_V fun w2 hw2 => ?_)) (kx_X fun E2 w2 hx2 => ?_)
    · obtain rfl := hw2.symm
      refine J_aload_n (pc := 8) dX6_size_8 rfl rfl rfl ?_
      obtain ⟨_, hc3, rfl⟩ := hS 0 _ rfl
      refine J_get (pc := 9) (k := 1) dX6_size_9 kC7 (by decide) ff_X6_16 hc3 rfl ?_
      refine J_aload_n (pc := 12) dX6_size_12 rfl rfl rfl ?_
      refine J_get (pc := 13) (k := 0) dX6_size_13 kC7 (by decide) ff_X6_9 hc3 rfl ?_
      refine J_iload_n (pc := 16) dX6_size_16 rfl rfl ?_
      refine J_aload_n (pc := 17) dX6_size_17 rfl rfl rfl ?_
      refine J_get (pc := 18) (k := 0) dX6_size_18 kC7 (by decide) ff_X6_9 hc3 rfl ?_
      refine J_iload_n (pc := 21) dX6_size_21 rfl rfl ?_
      obtain ⟨_, hc4, xs4, rfl, hl4⟩ := hS 1 _ rfl
      refine J_iald (pc := 22) dX6_size_22 hc4 (nI_in (by omega) (by omega)) (J_absI fun x5 => ?_)
      refine J_aload_n (pc := 23) dX6_size_23 rfl rfl rfl ?_
      refine J_get (pc := 24) (k := 5) dX6_size_24 kC7 (by decide) ff_X6_41 hc3 rfl ?_
      obtain ⟨_, hc7, ka7, kf7, kb7, kg7, rfl, hb7_0, hb7_1⟩ := hS 2 _ rfl
      refine J_callV0 (pc := 27) (M := mX6_size) (as := [.ref 1, .int p0, .int x5, .int (nI n)]) dX6_size_27 fw_X0_raise fl_X6_134 fm_X0_raise fe_X0_raise hc7 (by decide) rfl rfl rfl (c_X0_raise hs (d := d - 1) (by omega) (e := e) (r := r) (q := q) hn1 hn2 hS (w := w) p0 x5 (kc := 0) (ks := 0)) (by omega) (st := []) (Nat.le_of_ble_eq_true rfl) rfl (kr_V fun w6 hw6 => ?_) kx_V
      obtain ⟨hS6, hF6⟩ := hw6
      have hG6 := hG.tr hF6
      refine J_aload_n (pc := 30) dX6_size_30 rfl rfl rfl ?_
      obtain ⟨_, hc8, rfl⟩ := hS6 0 _ rfl
      refine J_get (pc := 31) (k := 1) dX6_size_31 kC7 (by decide) ff_X6_16 hc8 rfl ?_
      obtain ⟨_, hc10, ka10, kf10, kb10, kg10, rfl, hb10_0, hb10_1⟩ := hS6 2 _ rfl
      refine J_callV0 (pc := 34) (M := mX6_size) (as := []) dX6_size_34 fw_X0_total fl_X6_138 fm_X0_total fe_X0_total hc10 (by decide) rfl rfl rfl (c_X0_total hs (d := d - 1) (by omega) (e := e) (r := r) (q := q) hn1 hn2 hS6 (w := w6)  (kc := 0) (ks := 0)) (by omega) (st := []) (Nat.le_of_ble_eq_true rfl) rfl (kr_P fun v9 hv9 => ?_) kx_I
      exact J_iret (pc := 37) dX6_size_37 rfl ⟨trivial, ⟨hS6, hG6⟩⟩
    · exact JX_out (fun _ h => nomatch h) (by obtain ⟨h1, h2⟩ := hx2; exact ⟨Or.inr h1, by subst h2; exact ⟨hS.push, hG.tr Fr.push⟩⟩)
  · exact JX_out (fun _ h => nomatch h) (by obtain ⟨h1, h2⟩ := hx1; exact ⟨Or.inl h1, by subst h2; exact ⟨hS.push, hG.tr Fr.push⟩⟩)
