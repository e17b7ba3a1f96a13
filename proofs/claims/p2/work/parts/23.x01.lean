/-! contracts of the class -/
set_option maxRecDepth 100000 in
set_option maxHeartbeats 4000000 in
theorem c_X6_cannot {X : jX} (hs : X.1.stackTraces = false) {d : Nat} (hd : 0 ≤ d) {n : Nat} {e r q : Int32} (hn1 : 2 ≤ n) (hn2 : n ≤ 7) {w : List jC} (hS : SH (rX n e r q) w) {kc ks : Nat} : jMet X mX6_cannot d kc ks [.ref 0] w (pI (fun _ => True) (fun w' => rT n q w w')) := by
  refine jMet_of hs (by decide +kernel) (Nat.le_of_ble_eq_true rfl) (L := [some (.ref 0)]) rfl ?_
  have hG : Fr kX w w := Fr.rf
  refine J_aload_n (pc := 0) dX6_cannot_0 rfl rfl rfl ?_
  refine J_dup (pc := 1) dX6_cannot_1 rfl ?_
  obtain ⟨_, hc1, rfl⟩ := hS 0 _ rfl
  refine J_get (pc := 2) (k := 7) dX6_cannot_2 kC7 (by decide) ff_X6_48 hc1 rfl ?_
  refine J_iconst (pc := 5) (v := nI 1) dX6_cannot_5 (by decide) ?_
  refine J_iadd (pc := 6) dX6_cannot_6 (J_absI fun x2 => ?_)
  refine J_put0 (pc := 7) (n' := n) (e' := e) (r' := x2) (q' := q) (k := 7) dX6_cannot_7 kC7 (by decide) ff_X6_48 (Or.inl rfl) ⟨rfl, rfl⟩ hS (by decide) rfl (fun w3 hS3 hne3 hF3 => ?_)
  have hG3 := hG.tr hF3
  refine J_bipush (pc := 10) (v := (-9)) dX6_cannot_10 (by decide) ?_
  exact J_iret (pc := 12) dX6_cannot_12 rfl ⟨trivial, ⟨_, _, hS3, hG3⟩⟩
set_option maxRecDepth 100000 in
set_option maxHeartbeats 4000000 in
theorem c_J7_fill_53178_at1 {X : jX} (hs : X.1.stackTraces = false) {d : Nat} (hd : 0 ≤ d) {n : Nat} {e r q : Int32} {w : List jC} (hS : SH (rX n e r q) w) (a : Int32) {kc ks : Nat} : jMet X mJ7_fill_53178 d kc ks [.ref 1, .int a] w (pV (fun w' => rS n e r q w w')) := by
  refine jMet_of hs (by decide +kernel) (Nat.le_of_ble_eq_true rfl) (L := [some (.ref 1), some (.int a), none, none]) rfl ?_
  have hG : Fr kX w w := Fr.rf
  refine J_iconst (pc := 0) (v := nI 0) dJ7_fill_53178_0 (by decide) ?_
  refine J_istore_n (pc := 1) dJ7_fill_53178_1 rfl (by decide) rfl ?_
  show J X mJ7_fill_53178 d kc ks 2 [some (.ref 1), some (.int a), some (.int (nI 0)), none] [] w _
  refine J_aload_n (pc := 2) dJ7_fill_53178_2 rfl rfl rfl ?_
  obtain ⟨_, hc1, xs1, rfl, hl1⟩ := hS 1 _ rfl
  refine J_alen (pc := 3) (n := nI 6) dJ7_fill_53178_3 hc1 (by decide) (by rw [hl1]; rfl) ?_
  refine J_istore_n (pc := 4) dJ7_fill_53178_4 rfl (by decide) rfl ?_
  show J X mJ7_fill_53178 d kc ks 5 [some (.ref 1), some (.int a), some (.int (nI 0)), some (.int (nI 6))] [] w _
  have lp5_2 : ∀ (fuel : Nat) (w3 : List jC) (c2 : Nat), SH (rX n e r q) w3 → Fr kX w w3 → c2 < 2147483648 → 6 - c2 < fuel → J X mJ7_fill_53178 d kc ks 5 [some (.ref 1), some (.int a), some (.int (nI c2)), some (.int (nI 6))] [] w3 (pV (fun w' => rS n e r q w w')) := by
    intro fuellp5_2
    induction fuellp5_2 with
    | zero => intros; omega
    | succ fuellp5_2 ihlp5_2 =>
      intro w3 c2 hS4 hG5 hi6 hf7
      refine J_iload_n (pc := 5) dJ7_fill_53178_5 rfl rfl ?_
      refine J_iload_n (pc := 6) dJ7_fill_53178_6 rfl rfl ?_
      refine J_icmp_geN (pc := 7) (tgt := 20) dJ7_fill_53178_7 (by decide) (by omega) (by omega) (fun ht8 => ?_) (fun hf9 => ?_)
      · exact J_vret (pc := 20) dJ7_fill_53178_20 rfl (⟨hS4, hG5⟩)
      · refine J_aload_n (pc := 10) dJ7_fill_53178_10 rfl rfl rfl ?_
        refine J_iload_n (pc := 11) dJ7_fill_53178_11 rfl rfl ?_
        refine J_iload_n (pc := 12) dJ7_fill_53178_12 rfl rfl ?_
        obtain ⟨_, hc10, xs10, rfl, hl10⟩ := hS4 1 _ rfl
        refine J_iastS (pc := 13) kX dJ7_fill_53178_13 hS4 hc10 (nI_in (by omega) (by omega)) rfl ⟨_, rfl, by rw [List.length_set]; exact hl10⟩ (by decide) (fun w11 hS11 hc11 hne11 hF11 => ?_)
        have hG11 := hG5.tr hF11
        have hl11 : (List.set xs10 (nI c2).toNatClampNeg a).length = 6 := by rw [List.length_set]; exact hl10
        generalize List.set xs10 (nI c2).toNatClampNeg a = xs11 at hc11 hl11
        refine J_iincN (pc := 14) (b := 1) dJ7_fill_53178_14 rfl (by decide) (by decide) rfl ?_
        show J X mJ7_fill_53178 d kc ks 17 [some (.ref 1), some (.int a), some (.int (nI (c2 + 1))), some (.int (nI 6))] [] w11 _
        refine J_goto (pc := 17) (tgt := 5) dJ7_fill_53178_17 (by decide) ?_
        exact J_sub (L' := [some (.ref 1), some (.int a), some (.int (nI (c2 + 1))), some (.int (nI 6))]) ⟨rfl, ⟨rfl, ⟨rfl, ⟨rfl, trivial⟩⟩⟩⟩ (ihlp5_2 w11 (c2 + 1) hS11 hG11 (by first | assumption | omega) (by omega))
  exact J_sub (L' := [some (.ref 1), some (.int a), some (.int (nI 0)), some (.int (nI 6))]) ⟨rfl, ⟨rfl, ⟨rfl, ⟨rfl, trivial⟩⟩⟩⟩ (lp5_2 _ w 0 hS hG (by first | assumption | omega) (Nat.lt_succ_self _))
set_option maxRecDepth 100000 in
set_option maxHeartbeats 4000000 in
theorem c_X6_points {X : jX} (hs : X.1.stackTraces = false) {d : Nat} (hd : 13 ≤ d) {n : Nat} {e r q : Int32} (hn1 : 2 ≤ n) (hn2 : n ≤ 7) {w : List jC} (hS : SH (rX n e r q) w) (p0 : Int32) {kc ks : Nat} (hkc : 1 ≤ kc) (hks : 6 ≤ ks) : jMet X mX6_points d kc ks [.ref 0, .int p0] w (pX (pI (fun v => ∃ k : Nat, v = nI k ∧ k = n) (fun w' => ∃ k : Nat, 2 ≤ k ∧ k ≤ 7 ∧ p0 = nI k ∧ rT k q w w')) (fun E w' => (E = "java/lang/IllegalArgumentException") ∧ rT n q w w')) := by
  refine jMet_of hs (by decide +kernel) (Nat.le_of_ble_eq_true rfl) (L := [some (.ref 0), some (.int p0), none]) rfl ?_
  have hG : Fr kX w w := Fr.rf
  refine J_iload_n (pc := 0) dX6_points_0 rfl rfl ?_
  refine J_iconst (pc := 1) (v := nI 2) dX6_points_1 (by decide) ?_
  refine J_bipush (pc := 2) (v := nI 7) dX6_points_2 (by decide) ?_
  refine J_callS (pc := 4) (M := mX6_points) (as := [.int p0, .int (nI 2), .int (nI 7)]) dX6_points_4 fw_X6_needBetween fl_X6_63 fs_X6_needBetween rfl (c_X6_needBetween hs (d := d - 1) (by omega) (w := w) p0 (nI 2) (nI 7) (kc := 1) (ks := 6) (Nat.le_refl _) (Nat.le_refl _)) (by omega) (by omega) (by omega) (st := []) (Nat.le_of_ble_eq_true rfl) rfl (kr_X (kr_V fun w1 hw1 => ?_)) (kx_X fun E1 w1 hx1 => ?_)
  · obtain ⟨hq1, hpa1, hpb1⟩ := hw1
    obtain rfl := hq1.symm
    obtain ⟨b1, hb1, hc1, rfl⟩ := nI_btw hpa1 hpb1 (by omega) (by omega)
    refine J_aload_n (pc := 7) dX6_points_7 rfl rfl rfl ?_
    obtain ⟨_, hc2, rfl⟩ := hS 0 _ rfl
    refine J_get (pc := 8) (k := 5) dX6_points_8 kC7 (by decide) ff_X6_41 hc2 rfl ?_
    refine J_istore_n (pc := 11) dX6_points_11 rfl (by decide) rfl ?_
    show J X mX6_points d (kc - 1) (ks - 6) 12 [some (.ref 0), some (.int (nI b1)), some (.int (nI n))] [] w _
    refine J_aload_n (pc := 12) dX6_points_12 rfl rfl rfl ?_
    refine J_iload_n (pc := 13) dX6_points_13 rfl rfl ?_
    refine J_put0 (pc := 14) (n' := b1) (e' := e) (r' := r) (q' := q) (k := 5) dX6_points_14 kC7 (by decide) ff_X6_41 (Or.inl rfl) ⟨rfl, rfl⟩ hS (by decide) rfl (fun w3 hS3 hne3 hF3 => ?_)
    have hG3 := hG.tr hF3
    refine J_aload_n (pc := 17) dX6_points_17 rfl rfl rfl ?_
    obtain ⟨_, hc4, rfl⟩ := hS3 0 _ rfl
    refine J_get (pc := 18) (k := 0) dX6_points_18 kC7 (by decide) ff_X6_9 hc4 rfl ?_
    refine J_ldc (pc := 21) (v := nI 1754760) dX6_points_21 (by have := fk_X6_56; exact this) ?_
    refine J_callS0 (pc := 23) (M := mX6_points) (as := [.ref 1, .int (nI 1754760)]) dX6_points_23 fw_J7_fill_53178 fl_X6_57 fs_J7_fill_53178 rfl (c_J7_fill_53178_at1 hs (d := d - 1) (by omega) (n := b1) (e := e) (r := r) (q := q) hS3 (w := w3) (nI 1754760) (kc := 0) (ks := 0)) (by omega) (st := []) (Nat.le_of_ble_eq_true rfl) rfl (kr_V fun w5 hw5 => ?_) kx_V
    obtain ⟨hS5, hF5⟩ := hw5
    have hG5 := hG3.tr hF5
    refine J_aload_n (pc := 26) dX6_points_26 rfl rfl rfl ?_
    refine J_dup (pc := 27) dX6_points_27 rfl ?_
    obtain ⟨_, hc6, rfl⟩ := hS5 0 _ rfl
    refine J_get (pc := 28) (k := 6) dX6_points_28 kC7 (by decide) ff_X6_45 hc6 rfl ?_
    refine J_iconst (pc := 31) (v := nI 1) dX6_points_31 (by decide) ?_
    refine J_iadd (pc := 32) dX6_points_32 (J_absI fun x7 => ?_)
    refine J_put0 (pc := 33) (n' := b1) (e' := x7) (r' := r) (q' := q) (k := 6) dX6_points_33 kC7 (by decide) ff_X6_45 (Or.inl rfl) ⟨rfl, rfl⟩ hS5 (by decide) rfl (fun w8 hS8 hne8 hF8 => ?_)
    have hG8 := hG5.tr hF8
    refine J_iload_n (pc := 36) dX6_points_36 rfl rfl ?_
    exact J_iret (pc := 37) dX6_points_37 rfl ⟨⟨n, rfl, by omega⟩, ⟨_, by assumption, by assumption, rfl, _, _, hS8, hG8⟩⟩
  · exact JX_out (fun _ h => nomatch h) (by obtain ⟨h1, h2⟩ := hx1; exact ⟨h1, by subst h2; exact ⟨_, _, hS.push, hG.tr Fr.push⟩⟩)
set_option maxRecDepth 100000 in
set_option maxHeartbeats 4000000 in
theorem c_X6_lay {X : jX} (hs : X.1.stackTraces = false) {d : Nat} (hd : 13 ≤ d) {n : Nat} {e r q : Int32} (hn1 : 2 ≤ n) (hn2 : n ≤ 7) {w : List jC} (hS : SH (rX n e r q) w) (p0 : Int32) (p1 : Int32) {kc ks : Nat} (hkc : 2 ≤ kc) (hks : 12 ≤ ks) : jMet X mX6_lay d kc ks [.ref 0, .int p0, .int p1] w (pX (pI (fun _ => True) (fun w' => rT n q w w')) (fun E w' => (E = "java/lang/IndexOutOfBoundsException" ∨ E = "java/lang/IllegalArgumentException") ∧ rT n q w w')) := by
  refine jMet_of hs (by decide +kernel) (Nat.le_of_ble_eq_true rfl) (L := [some (.ref 0), some (.int p0), some (.int p1), none]) rfl ?_
  have hG : Fr kX w w := Fr.rf
  refine J_iload_n (pc := 0) dX6_lay_0 rfl rfl ?_
  refine J_callS (pc := 1) (M := mX6_lay) (as := [.int p0]) dX6_lay_1 fw_X6_needCell fl_X6_67 fs_X6_needCell rfl (c_X6_needCell hs (d := d - 1) (by omega) (w := w) p0 (kc := 1) (ks := 6) (Nat.le_refl _) (Nat.le_refl _)) (by omega) (by omega) (by omega) (st := []) (Nat.le_of_ble_eq_true rfl) rfl (kr_X (kr_V fun w1 hw1 => ?_)) (kx_X fun E1 w1 hx1 => ?_)
  · obtain ⟨hq1, hp1⟩ := hw1
    obtain rfl := hq1.symm
    obtain ⟨b1, hb1, rfl⟩ := hp1
    refine J_iload_n (pc := 4) dX6_lay_4 rfl rfl ?_
    refine J_iconst (pc := 5) (v := nI 0) dX6_lay_5 (by decide) ?_
    refine J_aload_n (pc := 6) dX6_lay_6 rfl rfl rfl ?_
    obtain ⟨_, hc2, rfl⟩ := hS 0 _ rfl
    refine J_get (pc := 7) (k := 5) dX6_lay_7 kC7 (by decide) ff_X6_41 hc2 rfl ?_
    refine J_callS0 (pc := 10) (M := mX6_lay) (as := [.int (nI n)]) dX6_lay_10 fw_X2_factorial fl_X6_71 fs_X2_factorial rfl (c_X2_factorial hs (d := d - 1) (by omega) (w := w) n (by omega) (kc := 0) (ks := 0)) (by omega) (st := [.int (nI 0), .int p1]) (Nat.le_of_ble_eq_true rfl) rfl (kr_P fun v3 hv3 => ?_) kx_I
    refine J_iconst (pc := 13) (v := nI 1) dX6_lay_13 (by decide) ?_
    refine J_isub (pc := 14) dX6_lay_14 (J_absI fun x4 => ?_)
    refine J_callS (pc := 15) (M := mX6_lay) (as := [.int p1, .int (nI 0), .int x4]) dX6_lay_15 fw_X6_needBetween fl_X6_63 fs_X6_needBetween rfl (c_X6_needBetween hs (d := d - 1) (by omega) (w := w) p1 (nI 0) x4 (kc := 1) (ks := 6) (Nat.le_refl _) (Nat.le_refl _)) (by omega) (by omega) (by omega) (st := []) (Nat.le_of_ble_eq_true rfl) rfl (kr_X (kr_V fun w5 hw5 => ?_)) (kx_X fun E5 w5 hx5 => ?_)
    · obtain ⟨hq5, hpa5, hpb5⟩ := hw5
      obtain rfl := hq5.symm
      refine J_aload_n (pc := 18) dX6_lay_18 rfl rfl rfl ?_
      refine J_get (pc := 19) (k := 0) dX6_lay_19 kC7 (by decide) ff_X6_9 hc2 rfl ?_
      refine J_iload_n (pc := 22) dX6_lay_22 rfl rfl ?_
      obtain ⟨_, hc6, xs6, rfl, hl6⟩ := hS 1 _ rfl
      refine J_iald (pc := 23) dX6_lay_23 hc6 (nI_in (by omega) (by omega)) (J_absI fun x7 => ?_)
      refine J_aload_n (pc := 24) dX6_lay_24 rfl rfl rfl ?_
      refine J_get (pc := 25) (k := 5) dX6_lay_25 kC7 (by decide) ff_X6_41 hc2 rfl ?_
      refine J_callS0 (pc := 28) (M := mX6_lay) (as := [.int x7, .int (nI n)]) dX6_lay_28 fw_X2_numberOf fl_X6_75 fs_X2_numberOf rfl (c_X2_numberOf hs (d := d - 1) (by omega) (w := w) x7 n (by omega) (kc := 0) (ks := 0)) (by omega) (st := []) (Nat.le_of_ble_eq_true rfl) rfl (kr_P fun v8 hv8 => ?_) kx_I
      refine J_istore_n (pc := 31) dX6_lay_31 rfl (by decide) rfl ?_
      show J X mX6_lay d (kc - 1 - 1) (ks - 6 - 6) 32 [some (.ref 0), some (.int (nI b1)), some (.int p1), some (.int v8)] [] w _
      refine J_aload_n (pc := 32) dX6_lay_32 rfl rfl rfl ?_
      refine J_iload_n (pc := 33) dX6_lay_33 rfl rfl ?_
      refine J_iload_n (pc := 34) dX6_lay_34 rfl rfl ?_
      refine J_aload_n (pc := 35) dX6_lay_35 rfl rfl rfl ?_
      refine J_get (pc := 36) (k := 5) dX6_lay_36 kC7 (by decide) ff_X6_41 hc2 rfl ?_
      refine J_callS0 (pc := 39) (M := mX6_lay) (as := [.int p1, .int (nI n)]) dX6_lay_39 fw_X2_withNumber fl_X6_79 fs_X2_withNumber rfl (c_X2_withNumber hs (d := d - 1) (by omega) (w := w) p1 n (by omega) (kc := 0) (ks := 0)) (by omega) (st := [.int (nI b1), .ref 0]) (Nat.le_of_ble_eq_true rfl) rfl (kr_P fun v9 hv9 => ?_) kx_I
      refine J_callV0 (pc := 42) (M := mX6_lay) (as := [.int (nI b1), .int v9]) dX6_lay_42 fw_X6_keep fl_X6_82 fm_X6_keep fe_X6_keep hc2 (by decide) rfl rfl rfl (c_X6_keep hs (d := d - 1) (by omega) (e := e) (r := r) (q := q) hn1 hn2 hS (w := w) b1 v9 (by omega) (kc := 0) (ks := 0)) (by omega) (st := []) (Nat.le_of_ble_eq_true rfl) rfl (kr_V fun w10 hw10 => ?_) kx_V
      obtain ⟨e10, r10, hS10, hF10⟩ := hw10
      have hG10 := hG.tr hF10
      refine J_iload_n (pc := 45) dX6_lay_45 rfl rfl ?_
      exact J_iret (pc := 46) dX6_lay_46 rfl ⟨trivial, ⟨_, _, hS10, hG10⟩⟩
    · exact JX_out (fun _ h => nomatch h) (by obtain ⟨h1, h2⟩ := hx5; exact ⟨Or.inr h1, by subst h2; exact ⟨_, _, hS.push, hG.tr Fr.push⟩⟩)
  · exact JX_out (fun _ h => nomatch h) (by obtain ⟨h1, h2⟩ := hx1; exact ⟨Or.inl h1, by subst h2; exact ⟨_, _, hS.push, hG.tr Fr.push⟩⟩)
