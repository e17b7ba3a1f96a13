/-! the reference's colourings, exactly -/
theorem ct_t {P : Nat → Prop} {m : Nat} (h : P m) : ct P m + 1 = ct P (m + 1) := by
  show _ = ct P m + on _
  rw [on_t h]
theorem ct_f {P : Nat → Prop} {m : Nat} (h : ¬ P m) : ct P m + 0 = ct P (m + 1) := by
  show _ = ct P m + on _
  rw [on_f h]
theorem col_end {co c y S : Nat} {nx : Nat → Nat} (hc : c = 0) (h : y * co ^ c + sm (fun q => nx q * co ^ q) c = S) : y = S := by
  subst hc
  rw [← h, Nat.pow_zero, Nat.mul_one]
  rfl
theorem isN_2c {a : Int32} (h1 : ¬ a < 0) (h2 : a ≤ nI 1) : isN a 2 := by
  obtain ⟨k, hk, rfl⟩ := nI_nn (Int32.not_lt.mp h1)
  exact ⟨k, by have := (nI_leI hk (by omega)).mp h2; omega, rfl⟩
theorem nI_0z {k : Nat} (hk : k < 2) (h : nI k = 0) : k = 0 := (nI_eq (b := 0) (by omega) (by decide)).mp (h.trans nI_0.symm)
set_option maxRecDepth 100000 in
set_option maxHeartbeats 4000000 in
theorem c_X8_isFirst_at21x {X : jX} (hs : X.1.stackTraces = false) {d : Nat} (hd : 0 ≤ d) {n : Nat} {mv rw nx : Nat → Nat} {b : Nat} {bt : List Int32} {kn en dn rf kk th : Int32} {w : List jC} (hR : RM n mv rw nx b bt kn en dn rf kk th w) (hn1 : 2 ≤ n) (hn2 : n ≤ 7) (gm : ∀ i, mv i < 7) (gr : ∀ i, rw i < 7) (gx : ∀ i, nx i < 7) (fr : Nat) (pt : Nat) (hy0 : fr + n ≤ 7) (hy1 : Pn n (fun p => rw (fr + p))) (hy2 : pt < n) {kc ks : Nat} : jMet X mX8_isFirst d kc ks [.ref 19, .ref 21, .int (nI fr), .int (nI pt)] w (pI (fun v => (v = nI 0 ∧ ¬ Ld (fun p => rw (fr + p)) pt) ∨ (v = nI 1 ∧ Ld (fun p => rw (fr + p)) pt)) (fun w' => w' = w)) := by
  refine jMet_of hs (by decide +kernel) (Nat.le_of_ble_eq_true rfl) (L := [some (.ref 19), some (.ref 21), some (.int (nI fr)), some (.int (nI pt)), none]) rfl ?_
  have hfc := fc_7 hn2
  have hfp := fc_pos n
  obtain ⟨h19, h20, h21, h22, hbb, hbl, hb3⟩ := hR
  have hF : FR b b w w := FR.rf
  obtain ⟨K, hK1, hK2, hK3, hK4⟩ := it_ret hy1 hy2
  refine J_aload_n (pc := 0) dX8_isFirst_0 rfl rfl rfl ?_
  refine J_iload_n (pc := 1) dX8_isFirst_1 rfl rfl ?_
  refine J_iload_n (pc := 2) dX8_isFirst_2 rfl rfl ?_
  refine J_iaddN (pc := 3) dX8_isFirst_3 ?_
  refine J_ialdF (pc := 4) dX8_isFirst_4 h21 (by omega) (by decide) ?_
  have hq1 := gr (fr + pt)
  refine J_istore (pc := 5) dX8_isFirst_5 (by decide) rfl ?_
  show J X mX8_isFirst d kc ks 7 [some (.ref 19), some (.ref 21), some (.int (nI fr)), some (.int (nI pt)), some (.int (nI (rw (fr + pt))))] [] w _
  have lp7_2 : ∀ (fuel : Nat) (y4 : Nat) (g7 : Nat), (1 ≤ g7) → (g7 ≤ K) → (y4 = it (fun p => rw (fr + p)) g7 pt) → (y4 < n) → (∀ j, 1 ≤ j → j < g7 → ¬ it (fun p => rw (fr + p)) j pt < pt) → (K - g7 < fuel) → J X mX8_isFirst d kc ks 7 [some (.ref 19), some (.ref 21), some (.int (nI fr)), some (.int (nI pt)), some (.int (nI y4))] [] w (pI (fun v => (v = nI 0 ∧ ¬ Ld (fun p => rw (fr + p)) pt) ∨ (v = nI 1 ∧ Ld (fun p => rw (fr + p)) pt)) (fun w' => w' = w)) := by
    intro fuellp7_2
    induction fuellp7_2 with
    | zero => intros; omega
    | succ fuellp7_2 ihlp7_2 =>
      intro y4 g7 hv7_0 hv7_1 hv7_2 hv7_3 hv7_4 hf3
      refine J_iload (pc := 7) dX8_isFirst_7 rfl ?_
      refine J_iload_n (pc := 9) dX8_isFirst_9 rfl rfl ?_
      refine J_icmp_eqN (pc := 10) (tgt := 32) dX8_isFirst_10 (by decide) (by omega) (by omega) (fun ht4 => ?_) (fun hf5 => ?_)
      · refine J_iconst (pc := 32) (v := nI 1) dX8_isFirst_32 (by decide) ?_
        exact J_zret (pc := 33) dX8_isFirst_33 rfl (nar_b (by first | decide | omega)) ⟨Or.inr (⟨rfl, (by exact isF_y hK1 hK3 hK4 hv7_0 hv7_1 (hv7_2.symm.trans (by assumption)) hv7_4)⟩), rfl⟩
      · have h16 : g7 ≠ K := fun e => absurd (show y4 = pt by rw [hv7_2, e]; exact hK3) (by assumption)
        refine J_iload (pc := 13) dX8_isFirst_13 rfl ?_
        refine J_iload_n (pc := 15) dX8_isFirst_15 rfl rfl ?_
        refine J_icmp_geN (pc := 16) (tgt := 21) dX8_isFirst_16 (by decide) (by omega) (by omega) (fun ht6 => ?_) (fun hf7 => ?_)
        · refine J_aload_n (pc := 21) dX8_isFirst_21 rfl rfl rfl ?_
          refine J_iload_n (pc := 22) dX8_isFirst_22 rfl rfl ?_
          refine J_iload (pc := 23) dX8_isFirst_23 rfl ?_
          refine J_iaddN (pc := 25) dX8_isFirst_25 ?_
          refine J_ialdF (pc := 26) dX8_isFirst_26 h21 (by omega) (by decide) ?_
          have hq8 := gr (fr + y4)
          refine J_istore (pc := 27) dX8_isFirst_27 (by decide) rfl ?_
          show J X mX8_isFirst d kc ks 29 [some (.ref 19), some (.ref 21), some (.int (nI fr)), some (.int (nI pt)), some (.int (nI (rw (fr + y4))))] [] w _
          refine J_goto (pc := 29) (tgt := 7) dX8_isFirst_29 (by decide) ?_
          exact J_sub (L' := [some (.ref 19), some (.ref 21), some (.int (nI fr)), some (.int (nI pt)), some (.int (nI (rw (fr + y4))))]) ⟨rfl, ⟨rfl, ⟨rfl, ⟨rfl, ⟨rfl, trivial⟩⟩⟩⟩⟩ (ihlp7_2 (rw (fr + y4)) (g7 + 1) (by first | assumption | omega) (by first | assumption | omega) (by rw [hv7_2]; rfl) (by exact hy1.1 y4 hv7_3) (by exact isF_s hv7_4 hv7_2 (by omega)) (by omega))
        · refine J_iconst (pc := 19) (v := nI 0) dX8_isFirst_19 (by decide) ?_
          exact J_zret (pc := 20) dX8_isFirst_20 rfl (nar_b (by first | decide | omega)) ⟨Or.inl ⟨rfl, (by exact isF_n hv7_2 (by assumption))⟩, rfl⟩
  exact J_sub (L' := [some (.ref 19), some (.ref 21), some (.int (nI fr)), some (.int (nI pt)), some (.int (nI (rw (fr + pt))))]) ⟨rfl, ⟨rfl, ⟨rfl, ⟨rfl, ⟨rfl, trivial⟩⟩⟩⟩⟩ (lp7_2 _ (rw (fr + pt)) 1 (by first | assumption | omega) (by first | assumption | omega) (by rfl) (by exact hy1.1 pt hy2) (by intro j h1 h2; omega) (Nat.lt_succ_self _))
set_option maxRecDepth 100000 in
set_option maxHeartbeats 4000000 in
theorem c_X8_ringsOf_at21x {X : jX} (hs : X.1.stackTraces = false) {d : Nat} (hd : 1 ≤ d) {n : Nat} {mv rw nx : Nat → Nat} {b : Nat} {bt : List Int32} {kn en dn rf kk th : Int32} {w : List jC} (hR : RM n mv rw nx b bt kn en dn rf kk th w) (hn1 : 2 ≤ n) (hn2 : n ≤ 7) (gm : ∀ i, mv i < 7) (gr : ∀ i, rw i < 7) (gx : ∀ i, nx i < 7) (fr : Nat) (hy0 : fr + n ≤ 7) (hy1 : Pn n (fun p => rw (fr + p))) {kc ks : Nat} : jMet X mX8_ringsOf d kc ks [.ref 19, .ref 21, .int (nI fr)] w (pI (fun v => v = nI (ct (Ld (fun p => rw (fr + p))) n)) (fun w' => w' = w)) := by
  refine jMet_of hs (by decide +kernel) (Nat.le_of_ble_eq_true rfl) (L := [some (.ref 19), some (.ref 21), some (.int (nI fr)), none, none]) rfl ?_
  have hdm : 0 ≤ d - 1 := by omega
  have hdp : d - 1 + 1 ≤ d := by omega
  have hfc := fc_7 hn2
  have hfp := fc_pos n
  obtain ⟨h19, h20, h21, h22, hbb, hbl, hb3⟩ := hR
  have hF : FR b b w w := FR.rf
  refine J_iconst (pc := 0) (v := nI 0) dX8_ringsOf_0 (by decide) ?_
  refine J_istore_n (pc := 1) dX8_ringsOf_1 rfl (by decide) rfl ?_
  show J X mX8_ringsOf d kc ks 2 [some (.ref 19), some (.ref 21), some (.int (nI fr)), some (.int (nI 0)), none] [] w _
  refine J_iconst (pc := 2) (v := nI 0) dX8_ringsOf_2 (by decide) ?_
  refine J_istore (pc := 3) dX8_ringsOf_3 (by decide) rfl ?_
  show J X mX8_ringsOf d kc ks 5 [some (.ref 19), some (.ref 21), some (.int (nI fr)), some (.int (nI 0)), some (.int (nI 0))] [] w _
  have lp5_1 : ∀ (fuel : Nat) (y3 : Nat) (c4 : Nat), (y3 = ct (Ld (fun p => rw (fr + p))) c4) → (c4 ≤ n) → (n - c4 < fuel) → J X mX8_ringsOf d kc ks 5 [some (.ref 19), some (.ref 21), some (.int (nI fr)), some (.int (nI y3)), some (.int (nI c4))] [] w (pI (fun v => v = nI (ct (Ld (fun p => rw (fr + p))) n)) (fun w' => w' = w)) := by
    intro fuellp5_1
    induction fuellp5_1 with
    | zero => intros; omega
    | succ fuellp5_1 ihlp5_1 =>
      intro y3 c4 hv5_0 hv5_1 hf2
      refine J_iload (pc := 5) dX8_ringsOf_5 rfl ?_
      refine J_aload_n (pc := 7) dX8_ringsOf_7 rfl rfl rfl ?_
      refine J_get (pc := 8) (k := 0) dX8_ringsOf_8 kC9 (by decide) ff_X8_7 h19 rfl ?_
      refine J_icmp_geN (pc := 11) (tgt := 39) dX8_ringsOf_11 (by decide) (by omega) (by omega) (fun ht3 => ?_) (fun hf4 => ?_)
      · refine J_iload_n (pc := 39) dX8_ringsOf_39 rfl rfl ?_
        exact J_iret (pc := 40) dX8_ringsOf_40 rfl ⟨(congrArg nI (by rw [hv5_0, show c4 = n by omega])), rfl⟩
      · refine J_iload_n (pc := 14) dX8_ringsOf_14 rfl rfl ?_
        refine J_aload_n (pc := 15) dX8_ringsOf_15 rfl rfl rfl ?_
        refine J_aload_n (pc := 16) dX8_ringsOf_16 rfl rfl rfl ?_
        refine J_iload_n (pc := 17) dX8_ringsOf_17 rfl rfl ?_
        refine J_iload (pc := 18) dX8_ringsOf_18 rfl ?_
        refine J_callV0 (pc := 20) (M := mX8_ringsOf) (as := [.ref 21, .int (nI fr), .int (nI c4)]) dX8_ringsOf_20 fw_X8_isFirst fl_X8_53 fm_X8_isFirst fe_X8_isFirst h19 (by decide) rfl rfl rfl (c_X8_isFirst_at21x hs (d := d - 1) (Nat.le_trans (by decide) hdm) (w := w) (n := n) (mv := mv) (rw := rw) (nx := nx) (b := b) (bt := bt) (kn := kn) (en := en) (dn := dn) (rf := rf) (kk := kk) (th := th) ⟨h19, h20, h21, h22, hbb, hbl, hb3⟩ hn1 hn2 gm gr gx fr c4 (by first | assumption | omega) (by first | assumption | omega) (by first | assumption | omega) (kc := 0) (ks := 0)) hdp (st := [.int (nI y3)]) (Nat.le_of_ble_eq_true rfl) rfl (kr_P fun v5 hv5 => ?_) kx_I
        rcases hv5 with ⟨rfl, hk5_0⟩ | ⟨rfl, hk5_0⟩
        · refine J_if_eqN (pc := 23) (tgt := 30) dX8_ringsOf_23 (by decide) (by decide) (fun _ => ?_) (fun h => absurd h (by decide))
          refine J_iconst (pc := 30) (v := nI 0) dX8_ringsOf_30 (by decide) ?_
          refine J_iaddN (pc := 31) dX8_ringsOf_31 ?_
          refine J_istore_n (pc := 32) dX8_ringsOf_32 rfl (by decide) rfl ?_
          show J X mX8_ringsOf d kc ks 33 [some (.ref 19), some (.ref 21), some (.int (nI fr)), some (.int (nI (y3 + 0))), some (.int (nI c4))] [] w _
          refine J_iincN (pc := 33) (b := 1) dX8_ringsOf_33 rfl (by decide) (by decide) rfl ?_
          show J X mX8_ringsOf d kc ks 36 [some (.ref 19), some (.ref 21), some (.int (nI fr)), some (.int (nI (y3 + 0))), some (.int (nI (c4 + 1)))] [] w _
          refine J_goto (pc := 36) (tgt := 5) dX8_ringsOf_36 (by decide) ?_
          exact J_sub (L' := [some (.ref 19), some (.ref 21), some (.int (nI fr)), some (.int (nI (y3 + 0))), some (.int (nI (c4 + 1)))]) ⟨rfl, ⟨rfl, ⟨rfl, ⟨rfl, ⟨rfl, trivial⟩⟩⟩⟩⟩ (ihlp5_1 (y3 + 0) (c4 + 1) (by first | (rw [hv5_0]; exact ct_t (by assumption)) | (rw [hv5_0]; exact ct_f (by assumption))) (by first | assumption | omega) (by omega))
        · refine J_if_eqN (pc := 23) (tgt := 30) dX8_ringsOf_23 (by decide) (by decide) (fun h => absurd h (by decide)) (fun _ => ?_)
          refine J_iconst (pc := 26) (v := nI 1) dX8_ringsOf_26 (by decide) ?_
          refine J_goto (pc := 27) (tgt := 31) dX8_ringsOf_27 (by decide) ?_
          refine J_iaddN (pc := 31) dX8_ringsOf_31 ?_
          refine J_istore_n (pc := 32) dX8_ringsOf_32 rfl (by decide) rfl ?_
          show J X mX8_ringsOf d kc ks 33 [some (.ref 19), some (.ref 21), some (.int (nI fr)), some (.int (nI (y3 + 1))), some (.int (nI c4))] [] w _
          refine J_iincN (pc := 33) (b := 1) dX8_ringsOf_33 rfl (by decide) (by decide) rfl ?_
          show J X mX8_ringsOf d kc ks 36 [some (.ref 19), some (.ref 21), some (.int (nI fr)), some (.int (nI (y3 + 1))), some (.int (nI (c4 + 1)))] [] w _
          refine J_goto (pc := 36) (tgt := 5) dX8_ringsOf_36 (by decide) ?_
          exact J_sub (L' := [some (.ref 19), some (.ref 21), some (.int (nI fr)), some (.int (nI (y3 + 1))), some (.int (nI (c4 + 1)))]) ⟨rfl, ⟨rfl, ⟨rfl, ⟨rfl, ⟨rfl, trivial⟩⟩⟩⟩⟩ (ihlp5_1 (y3 + 1) (c4 + 1) (by first | (rw [hv5_0]; exact ct_t (by assumption)) | (rw [hv5_0]; exact ct_f (by assumption))) (by first | assumption | omega) (by omega))
  exact J_sub (L' := [some (.ref 19), some (.ref 21), some (.int (nI fr)), some (.int (nI 0)), some (.int (nI 0))]) ⟨rfl, ⟨rfl, ⟨rfl, ⟨rfl, ⟨rfl, trivial⟩⟩⟩⟩⟩ (lp5_1 _ 0 0 (by rfl) (by first | assumption | omega) (Nat.lt_succ_self _))
set_option maxRecDepth 100000 in
set_option maxHeartbeats 4000000 in
theorem c_X8_byThoseThatStay_atx {X : jX} (hs : X.1.stackTraces = false) {d : Nat} (hd : 4 ≤ d) {n : Nat} {mv rw nx : Nat → Nat} {b : Nat} {bt : List Int32} {kn en dn rf kk th : Int32} {w : List jC} (hR : RM n mv rw nx b bt kn en dn rf kk th w) (hn1 : 2 ≤ n) (hn2 : n ≤ 7) (gm : ∀ i, mv i < 7) (gr : ∀ i, rw i < 7) (gx : ∀ i, nx i < 7) (s : Nat) (c : Nat) (hy0 : s < 64) (hy1 : PM n mv) (hy2 : KX n mv kn bt en) (hy3 : c ≤ 3) {kc ks : Nat} (hkc : 13 ≤ kc) (hks : 2054 ≤ ks) : jMet X mX8_byThoseThatStay d kc ks [.ref 19, .int (nI s), .int (nI c)] w (pI (fun v => v = nI (cQ n (Gg n (gS (mW n mv) s 6)) c)) (fun w' => ∃ (rw' : Nat → Nat), ∃ (nx' : Nat → Nat), ∃ (b' : Nat), ∃ (bt' : List Int32), ∃ (kn' : Int32), ∃ (en' : Int32), RM n mv rw' nx' b' bt' kn' en' dn rf kk th w' ∧ FR b b' w w' ∧ (∀ i, rw' i < 7) ∧ (∀ i, nx' i < 7) ∧ kn' = nI s ∧ BX n mv s bt' en')) := by
  refine jMet_of hs (by decide +kernel) (Nat.le_of_ble_eq_true rfl) (L := [some (.ref 19), some (.int (nI s)), some (.int (nI c)), none, none, none, none]) rfl ?_
  have hdm : 3 ≤ d - 1 := by omega
  have hdp : d - 1 + 1 ≤ d := by omega
  have hfc := fc_7 hn2
  have hfp := fc_pos n
  obtain ⟨h19, h20, h21, h22, hbb, hbl, hb3⟩ := hR
  have hF : FR b b w w := FR.rf
  refine J_aload_n (pc := 0) dX8_byThoseThatStay_0 rfl rfl rfl ?_
  refine J_iload_n (pc := 1) dX8_byThoseThatStay_1 rfl rfl ?_
  refine J_callV (pc := 2) (M := mX8_byThoseThatStay) (as := [.int (nI s)]) dX8_byThoseThatStay_2 fw_X8_group fl_X8_99 fm_X8_group fe_X8_group h19 (by decide) rfl rfl rfl (c_X8_group_ate hs (d := d - 1) (Nat.le_trans (by decide) hdm) (w := w) (n := n) (mv := mv) (rw := rw) (nx := nx) (b := b) (bt := bt) (kn := kn) (en := en) (dn := dn) (rf := rf) (kk := kk) (th := th) ⟨h19, h20, h21, h22, hbb, hbl, hb3⟩ hn1 hn2 gm gr gx s (by first | assumption | omega) (by first | assumption | omega) (by first | assumption | omega) (kc := 13) (ks := 2054) (Nat.le_refl _) (Nat.le_refl _)) hdp (by omega) (by omega) (st := []) (Nat.le_of_ble_eq_true rfl) rfl (kr_V fun w1 hw1 => ?_) kx_V
  obtain ⟨rw1, nx1, b1, bt1, kn1, en1, hR1, hFc1, hgrw1, hgnx1, hp1_0, hp1_1⟩ := hw1
  obtain ⟨h19_1, h20_1, h21_1, h22_1, hbb_1, hbl_1, hb3_1⟩ := hR1
  have qd1 := hFc1.2.1
  have hF1 := hF.tr hFc1
  have hBXE := hp1_1; have hBX := hBXE.1
  have hBT := BY_BT hn1 hn2 hBX
  refine J_iconst (pc := 5) (v := nI 0) dX8_byThoseThatStay_5 (by decide) ?_
  refine J_istore_n (pc := 6) dX8_byThoseThatStay_6 rfl (by decide) rfl ?_
  show J X mX8_byThoseThatStay d (kc - 13) (ks - 2054) 7 [some (.ref 19), some (.int (nI s)), some (.int (nI c)), some (.int (nI 0)), none, none, none] [] w1 _
  refine J_aload_n (pc := 7) dX8_byThoseThatStay_7 rfl rfl rfl ?_
  refine J_iconst (pc := 8) (v := nI 0) dX8_byThoseThatStay_8 (by decide) ?_
  refine J_callV0 (pc := 9) (M := mX8_byThoseThatStay) (as := [.int (nI 0)]) dX8_byThoseThatStay_9 fw_X8_from fl_X8_137 fm_X8_from fe_X8_from h19_1 (by decide) rfl rfl rfl (c_X8_from hs (d := d - 1) (Nat.le_trans (by decide) hdm) (w := w1) (n := n) (mv := mv) (rw := rw1) (nx := nx1) (b := b1) (bt := bt1) (kn := kn1) (en := en1) (dn := dn) (rf := rf) (kk := kk) (th := th) ⟨h19_1, h20_1, h21_1, h22_1, hbb_1, hbl_1, hb3_1⟩ hn1 hn2 gm hgrw1 hgnx1 0 (by first | assumption | omega) (kc := 0) (ks := 0)) hdp (st := []) (Nat.le_of_ble_eq_true rfl) rfl (kr_P fun v2 hv2 => ?_) kx_I
  rcases hv2 with ⟨rfl, hk2_0⟩ | ⟨q2, rfl, hk2_0, hk2_1, hk2_2, hk2_3⟩
  · refine J_istore (pc := 12) dX8_byThoseThatStay_12 (by decide) rfl ?_
    show J X mX8_byThoseThatStay d (kc - 13) (ks - 2054) 14 [some (.ref 19), some (.int (nI s)), some (.int (nI c)), some (.int (nI 0)), some (.int (-1)), none, none] [] w1 _
    have lp14_3 : ∀ (fuel : Nat) (w4 : List jC) (rw_14 : Nat → Nat) (z3 : Nat) (c4 : Nat), (RM n mv rw_14 nx1 b1 bt1 kn1 en1 dn rf kk th w4) → (FR b b1 w w4) → (∀ i, rw_14 i < 7) → (c4 ≤ fc n) → (0 < c4 → bitL bt1 (c4 - 1) = true) → (SMt bt1 (fun k => c ^ hr (XM n k) n) z3 (KK (fc n) c4)) → (mu (fc n) c4 < fuel) → J X mX8_byThoseThatStay d (kc - 13) (ks - 2054) 14 [some (.ref 19), some (.int (nI s)), some (.int (nI c)), some (.int (nI z3)), some (.int (nI c4 + Int32.ofInt (-1))), none, none] [] w4 (pI (fun v => v = nI (cQ n (Gg n (gS (mW n mv) s 6)) c)) (fun w' => ∃ (rw' : Nat → Nat), ∃ (nx' : Nat → Nat), ∃ (b' : Nat), ∃ (bt' : List Int32), ∃ (kn' : Int32), ∃ (en' : Int32), RM n mv rw' nx' b' bt' kn' en' dn rf kk th w' ∧ FR b b' w w' ∧ (∀ i, rw' i < 7) ∧ (∀ i, nx' i < 7) ∧ kn' = nI s ∧ BX n mv s bt' en')) := by
      intro fuellp14_3
      induction fuellp14_3 with
      | zero => intros; omega
      | succ fuellp14_3 ihlp14_3 =>
        intro w4 rw_14 z3 c4 hR5 hF6 gr7 hv14_0 hv14_1 hv14_2 hf8
        obtain ⟨h19_9, h20_9, h21_9, h22_9, hb_9, hbl_9, hb3_9⟩ := hR5
        refine J_iload (pc := 14) dX8_byThoseThatStay_14 rfl ?_
        refine J_if_ltM (pc := 16) (tgt := 78) dX8_byThoseThatStay_16 (by decide) (by omega) (fun ht10 => ?_) (fun hf11 => ?_)
        · have hsm : SMt bt1 (fun k => c ^ hr (XM n k) n) z3 (fc n) := by
            have h := hv14_2
            rw [show c4 = 0 by omega, KK_0] at h
            exact h
          have hzb := SMt_le (B := 2187) (fun k _ => cp_bd hn2 hy3) hsm
          have hf7 := fc_7 hn2
          refine J_iload_n (pc := 78) dX8_byThoseThatStay_78 rfl rfl ?_
          refine J_aload_n (pc := 79) dX8_byThoseThatStay_79 rfl rfl rfl ?_
          refine J_callV0 (pc := 80) (M := mX8_byThoseThatStay) (as := []) dX8_byThoseThatStay_80 fw_X8_sizeNow fl_X8_102 fm_X8_sizeNow fe_X8_sizeNow h19_9 (by decide) rfl rfl rfl (c_X8_sizeNow hs (d := d - 1) (Nat.le_trans (by decide) hdm) (w := w4) (n := n) (mv := mv) (rw := rw_14) (nx := nx1) (b := b1) (bt := bt1) (kn := kn1) (en := en1) (dn := dn) (rf := rf) (kk := kk) (th := th) ⟨h19_9, h20_9, h21_9, h22_9, hb_9, hbl_9, hb3_9⟩ hn1 hn2 gm gr7 hgnx1  (kc := 0) (ks := 0)) hdp (st := [.int (nI z3)]) (Nat.le_of_ble_eq_true rfl) rfl (kr_P fun v12 hv12 => ?_) kx_I
          subst hv12
          have hsz := cnt_pos (P := bitL bt1) 5056 0 (by decide) hBT.2
          have hsz2 := cnt_le (bitL bt1) 5056
          have hm13 := Nat.mod_lt z3 (show 0 < cnt (bitL bt1) 5056 by omega)
          have hm14 := Nat.div_le_self z3 (cnt (bitL bt1) 5056)
          refine J_idivN (pc := 83) dX8_byThoseThatStay_83 (by omega) (by omega) (by omega) ?_
          exact J_iret (pc := 84) dX8_byThoseThatStay_84 rfl ⟨(congrArg nI (by exact cQ_end hn2 hBX hsm)), ⟨rw_14, nx1, b1, bt1, kn1, en1, ⟨h19_9, h20_9, h21_9, h22_9, hb_9, hbl_9, hb3_9⟩, hF6, gr7, hgnx1, (by first | rfl | assumption), (by first | assumption | exact hBX)⟩⟩
        · rw [nI_m1 hf11]
          have hb14 := hv14_1 (by omega)
          have hprev : SMt bt1 (fun k => c ^ hr (XM n k) n) z3 (c4 - 1) := by
            have h := hv14_2
            rw [KK_p (by omega)] at h
            exact h
          refine J_aload_n (pc := 19) dX8_byThoseThatStay_19 rfl rfl rfl ?_
          refine J_iload (pc := 20) dX8_byThoseThatStay_20 rfl ?_
          refine J_aload_n (pc := 22) dX8_byThoseThatStay_22 rfl rfl rfl ?_
          refine J_get (pc := 23) (k := 2) dX8_byThoseThatStay_23 kC9 (by decide) ff_X8_17 h19_9 rfl ?_
          refine J_callV0 (pc := 26) (M := mX8_byThoseThatStay) (as := [.int (nI (c4 - 1)), .ref 21]) dX8_byThoseThatStay_26 fw_X8_rowOf fl_X8_78 fm_X8_rowOf fe_X8_rowOf h19_9 (by decide) rfl rfl rfl (c_X8_rowOf hs (d := d - 1) (Nat.le_trans (by decide) hdm) (w := w4) (n := n) (mv := mv) (rw := rw_14) (nx := nx1) (b := b1) (bt := bt1) (kn := kn1) (en := en1) (dn := dn) (rf := rf) (kk := kk) (th := th) ⟨h19_9, h20_9, h21_9, h22_9, hb_9, hbl_9, hb3_9⟩ hn1 hn2 gm gr7 hgnx1 (c4 - 1) (by first | assumption | omega) (kc := 0) (ks := 0)) hdp (st := []) (Nat.le_of_ble_eq_true rfl) rfl (kr_V fun w15 hw15 => ?_) kx_V
          obtain ⟨rw15, hR15, hFc15, hgrw15, hp15_0⟩ := hw15
          obtain ⟨h19_15, h20_15, h21_15, h22_15, hbb_15, hbl_15, hb3_15⟩ := hR15
          have hF15 := hF6.tr hFc15
          have hPr := Pn_row (by omega) hp15_0
          have hrow := hp15_0
          refine J_iconst (pc := 29) (v := nI 1) dX8_byThoseThatStay_29 (by decide) ?_
          refine J_istore (pc := 30) dX8_byThoseThatStay_30 (by decide) rfl ?_
          show J X mX8_byThoseThatStay d (kc - 13) (ks - 2054) 32 [some (.ref 19), some (.int (nI s)), some (.int (nI c)), some (.int (nI z3)), some (.int (nI (c4 - 1))), some (.int (nI 1)), none] [] w15 _
          refine J_aload_n (pc := 32) dX8_byThoseThatStay_32 rfl rfl rfl ?_
          refine J_aload_n (pc := 33) dX8_byThoseThatStay_33 rfl rfl rfl ?_
          refine J_get (pc := 34) (k := 2) dX8_byThoseThatStay_34 kC9 (by decide) ff_X8_17 h19_15 rfl ?_
          refine J_iconst (pc := 37) (v := nI 0) dX8_byThoseThatStay_37 (by decide) ?_
          refine J_callV0 (pc := 38) (M := mX8_byThoseThatStay) (as := [.ref 21, .int (nI 0)]) dX8_byThoseThatStay_38 fw_X8_ringsOf fl_X8_203 fm_X8_ringsOf fe_X8_ringsOf h19_15 (by decide) rfl rfl rfl (c_X8_ringsOf_at21x hs (d := d - 1) (Nat.le_trans (by decide) hdm) (w := w15) (n := n) (mv := mv) (rw := rw15) (nx := nx1) (b := b1) (bt := bt1) (kn := kn1) (en := en1) (dn := dn) (rf := rf) (kk := kk) (th := th) ⟨h19_15, h20_15, h21_15, h22_15, hbb_15, hbl_15, hb3_15⟩ hn1 hn2 gm hgrw15 hgnx1 0 (by first | assumption | omega) (by exact Pn_z hPr) (kc := 0) (ks := 0)) hdp (st := []) (Nat.le_of_ble_eq_true rfl) rfl (kr_P fun v16 hv16 => ?_) kx_I
          subst hv16
          have hrr := hr_row (by omega) hn2 hrow
          have hcb := ct_le (Ld (fun p => rw15 (0 + p))) n
          refine J_istore (pc := 41) dX8_byThoseThatStay_41 (by decide) rfl ?_
          show J X mX8_byThoseThatStay d (kc - 13) (ks - 2054) 43 [some (.ref 19), some (.int (nI s)), some (.int (nI c)), some (.int (nI z3)), some (.int (nI (c4 - 1))), some (.int (nI 1)), some (.int (nI (ct (Ld (fun p => rw15 (0 + p))) n)))] [] w15 _
          have lp43_17 : ∀ (fuel : Nat) (y5 : Nat) (c6 : Nat), (y5 * c ^ c6 = c ^ hr (XM n (c4 - 1)) n) → (c6 ≤ 7) → (c6 < fuel) → J X mX8_byThoseThatStay d (kc - 13) (ks - 2054) 43 [some (.ref 19), some (.int (nI s)), some (.int (nI c)), some (.int (nI z3)), some (.int (nI (c4 - 1))), some (.int (nI y5)), some (.int (nI c6))] [] w15 (pI (fun v => v = nI (cQ n (Gg n (gS (mW n mv) s 6)) c)) (fun w' => ∃ (rw' : Nat → Nat), ∃ (nx' : Nat → Nat), ∃ (b' : Nat), ∃ (bt' : List Int32), ∃ (kn' : Int32), ∃ (en' : Int32), RM n mv rw' nx' b' bt' kn' en' dn rf kk th w' ∧ FR b b' w w' ∧ (∀ i, rw' i < 7) ∧ (∀ i, nx' i < 7) ∧ kn' = nI s ∧ BX n mv s bt' en')) := by
            intro fuellp43_17
            induction fuellp43_17 with
            | zero => intros; omega
            | succ fuellp43_17 ihlp43_17 =>
              intro y5 c6 hv43_0 hv43_1 hf18
              refine J_iload (pc := 43) dX8_byThoseThatStay_43 rfl ?_
              refine J_if_leN (pc := 45) (tgt := 60) dX8_byThoseThatStay_45 (by decide) (by omega) (fun ht19 => ?_) (fun hf20 => ?_)
              · have hy5 : y5 = c ^ hr (XM n (c4 - 1)) n := by
                  have h := hv43_0
                  rw [show c6 = 0 by omega, Nat.pow_zero, Nat.mul_one] at h
                  exact h
                refine J_iload_n (pc := 60) dX8_byThoseThatStay_60 rfl rfl ?_
                refine J_iload (pc := 61) dX8_byThoseThatStay_61 rfl ?_
                refine J_iaddN (pc := 63) dX8_byThoseThatStay_63 ?_
                refine J_istore_n (pc := 64) dX8_byThoseThatStay_64 rfl (by decide) rfl ?_
                show J X mX8_byThoseThatStay d (kc - 13) (ks - 2054) 65 [some (.ref 19), some (.int (nI s)), some (.int (nI c)), some (.int (nI (z3 + y5))), some (.int (nI (c4 - 1))), some (.int (nI y5)), some (.int (nI c6))] [] w15 _
                have hst : SMt bt1 (fun k => c ^ hr (XM n k) n) (z3 + y5) (c4 - 1 + 1) := SMt_s hprev hb14 hy5
                refine J_aload_n (pc := 65) dX8_byThoseThatStay_65 rfl rfl rfl ?_
                refine J_iload (pc := 66) dX8_byThoseThatStay_66 rfl ?_
                refine J_iconst (pc := 68) (v := nI 1) dX8_byThoseThatStay_68 (by decide) ?_
                refine J_iaddN (pc := 69) dX8_byThoseThatStay_69 ?_
                refine J_callV0 (pc := 70) (M := mX8_byThoseThatStay) (as := [.int (nI ((c4 - 1) + 1))]) dX8_byThoseThatStay_70 fw_X8_from fl_X8_137 fm_X8_from fe_X8_from h19_15 (by decide) rfl rfl rfl (c_X8_from hs (d := d - 1) (Nat.le_trans (by decide) hdm) (w := w15) (n := n) (mv := mv) (rw := rw15) (nx := nx1) (b := b1) (bt := bt1) (kn := kn1) (en := en1) (dn := dn) (rf := rf) (kk := kk) (th := th) ⟨h19_15, h20_15, h21_15, h22_15, hbb_15, hbl_15, hb3_15⟩ hn1 hn2 gm hgrw15 hgnx1 ((c4 - 1) + 1) (by first | assumption | omega) (kc := 0) (ks := 0)) hdp (st := []) (Nat.le_of_ble_eq_true rfl) rfl (kr_P fun v21 hv21 => ?_) kx_I
                rcases hv21 with ⟨rfl, hk21_0⟩ | ⟨q21, rfl, hk21_0, hk21_1, hk21_2, hk21_3⟩
                · refine J_istore (pc := 73) dX8_byThoseThatStay_73 (by decide) rfl ?_
                  show J X mX8_byThoseThatStay d (kc - 13) (ks - 2054) 75 [some (.ref 19), some (.int (nI s)), some (.int (nI c)), some (.int (nI (z3 + y5))), some (.int (-1)), some (.int (nI y5)), some (.int (nI c6))] [] w15 _
                  refine J_goto (pc := 75) (tgt := 14) dX8_byThoseThatStay_75 (by decide) ?_
                  exact J_sub (L' := [some (.ref 19), some (.int (nI s)), some (.int (nI c)), some (.int (nI (z3 + y5))), some (.int (nI 0 + Int32.ofInt (-1))), none, none]) ⟨rfl, ⟨rfl, ⟨rfl, ⟨rfl, ⟨(congrArg (fun z => some (Value.int z)) (by decide : (-1 : Int32) = nI 0 + Int32.ofInt (-1))), trivial⟩⟩⟩⟩⟩ (ihlp14_3 w15 rw15 (z3 + y5) 0 ⟨h19_15, h20_15, h21_15, h22_15, hbb_15, hbl_15, hb3_15⟩ hF15 hgrw15 (by first | assumption | omega) (by intro h; first | (rw [Nat.add_sub_cancel]; assumption) | omega) (by first | exact KI_0 SMt_f hst (by omega) (by assumption) | exact KI_1 SMt_f hst (by omega) (by assumption)) (by exact mu_dec (by assumption) (by omega) (by omega) (by omega)))
                · refine J_istore (pc := 73) dX8_byThoseThatStay_73 (by decide) rfl ?_
                  show J X mX8_byThoseThatStay d (kc - 13) (ks - 2054) 75 [some (.ref 19), some (.int (nI s)), some (.int (nI c)), some (.int (nI (z3 + y5))), some (.int (nI q21)), some (.int (nI y5)), some (.int (nI c6))] [] w15 _
                  refine J_goto (pc := 75) (tgt := 14) dX8_byThoseThatStay_75 (by decide) ?_
                  exact J_sub (L' := [some (.ref 19), some (.int (nI s)), some (.int (nI c)), some (.int (nI (z3 + y5))), some (.int (nI (q21 + 1) + Int32.ofInt (-1))), none, none]) ⟨rfl, ⟨rfl, ⟨rfl, ⟨rfl, ⟨(congrArg (fun z => some (Value.int z)) (nI_n1 q21)), trivial⟩⟩⟩⟩⟩ (ihlp14_3 w15 rw15 (z3 + y5) (q21 + 1) ⟨h19_15, h20_15, h21_15, h22_15, hbb_15, hbl_15, hb3_15⟩ hF15 hgrw15 (by first | assumption | omega) (by intro h; first | (rw [Nat.add_sub_cancel]; assumption) | omega) (by first | exact KI_0 SMt_f hst (by omega) (by assumption) | exact KI_1 SMt_f hst (by omega) (by assumption)) (by exact mu_dec (by assumption) (by omega) (by omega) (by omega)))
              · refine J_iload (pc := 48) dX8_byThoseThatStay_48 rfl ?_
                refine J_iload_n (pc := 50) dX8_byThoseThatStay_50 rfl rfl ?_
                refine J_imulN (pc := 51) dX8_byThoseThatStay_51 ?_
                refine J_istore (pc := 52) dX8_byThoseThatStay_52 (by decide) rfl ?_
                show J X mX8_byThoseThatStay d (kc - 13) (ks - 2054) 54 [some (.ref 19), some (.int (nI s)), some (.int (nI c)), some (.int (nI z3)), some (.int (nI (c4 - 1))), some (.int (nI (y5 * c))), some (.int (nI c6))] [] w15 _
                refine J_iincM (pc := 54) dX8_byThoseThatStay_54 rfl (by omega) (by decide) rfl ?_
                show J X mX8_byThoseThatStay d (kc - 13) (ks - 2054) 57 [some (.ref 19), some (.int (nI s)), some (.int (nI c)), some (.int (nI z3)), some (.int (nI (c4 - 1))), some (.int (nI (y5 * c))), some (.int (nI (c6 - 1)))] [] w15 _
                refine J_goto (pc := 57) (tgt := 43) dX8_byThoseThatStay_57 (by decide) ?_
                exact J_sub (L' := [some (.ref 19), some (.int (nI s)), some (.int (nI c)), some (.int (nI z3)), some (.int (nI (c4 - 1))), some (.int (nI (y5 * c))), some (.int (nI (c6 - 1)))]) ⟨rfl, ⟨rfl, ⟨rfl, ⟨rfl, ⟨rfl, ⟨rfl, ⟨rfl, trivial⟩⟩⟩⟩⟩⟩⟩ (ihlp43_17 (y5 * c) (c6 - 1) (by rw [← hv43_0]; exact pow_dn (by omega)) (by omega) (by omega))
          exact J_sub (L' := [some (.ref 19), some (.int (nI s)), some (.int (nI c)), some (.int (nI z3)), some (.int (nI (c4 - 1))), some (.int (nI 1)), some (.int (nI (ct (Ld (fun p => rw15 (0 + p))) n)))]) ⟨rfl, ⟨rfl, ⟨rfl, ⟨rfl, ⟨rfl, ⟨rfl, ⟨rfl, trivial⟩⟩⟩⟩⟩⟩⟩ (lp43_17 _ 1 (ct (Ld (fun p => rw15 (0 + p))) n) (by rw [Nat.one_mul, hrr]) (by omega) (Nat.lt_succ_self _))
    exact J_sub (L' := [some (.ref 19), some (.int (nI s)), some (.int (nI c)), some (.int (nI 0)), some (.int (nI 0 + Int32.ofInt (-1))), none, none]) ⟨rfl, ⟨rfl, ⟨rfl, ⟨rfl, ⟨(congrArg (fun z => some (Value.int z)) (by decide : (-1 : Int32) = nI 0 + Int32.ofInt (-1))), trivial⟩⟩⟩⟩⟩ (lp14_3 _ w1 rw1 0 0 ⟨h19_1, h20_1, h21_1, h22_1, hbb_1, hbl_1, hb3_1⟩ hF1 hgrw1 (by first | assumption | omega) (by intro h; first | (rw [Nat.add_sub_cancel]; assumption) | omega) (by first | exact KI_0 SMt_f SMt_0 (Nat.zero_le _) (by assumption) | exact KI_1 SMt_f SMt_0 (Nat.zero_le _) (by assumption)) (Nat.lt_succ_self _))
  · refine J_istore (pc := 12) dX8_byThoseThatStay_12 (by decide) rfl ?_
    show J X mX8_byThoseThatStay d (kc - 13) (ks - 2054) 14 [some (.ref 19), some (.int (nI s)), some (.int (nI c)), some (.int (nI 0)), some (.int (nI q2)), none, none] [] w1 _
    have lp14_22 : ∀ (fuel : Nat) (w23 : List jC) (rw_14 : Nat → Nat) (z3 : Nat) (c4 : Nat), (RM n mv rw_14 nx1 b1 bt1 kn1 en1 dn rf kk th w23) → (FR b b1 w w23) → (∀ i, rw_14 i < 7) → (c4 ≤ fc n) → (0 < c4 → bitL bt1 (c4 - 1) = true) → (SMt bt1 (fun k => c ^ hr (XM n k) n) z3 (KK (fc n) c4)) → (mu (fc n) c4 < fuel) → J X mX8_byThoseThatStay d (kc - 13) (ks - 2054) 14 [some (.ref 19), some (.int (nI s)), some (.int (nI c)), some (.int (nI z3)), some (.int (nI c4 + Int32.ofInt (-1))), none, none] [] w23 (pI (fun v => v = nI (cQ n (Gg n (gS (mW n mv) s 6)) c)) (fun w' => ∃ (rw' : Nat → Nat), ∃ (nx' : Nat → Nat), ∃ (b' : Nat), ∃ (bt' : List Int32), ∃ (kn' : Int32), ∃ (en' : Int32), RM n mv rw' nx' b' bt' kn' en' dn rf kk th w' ∧ FR b b' w w' ∧ (∀ i, rw' i < 7) ∧ (∀ i, nx' i < 7) ∧ kn' = nI s ∧ BX n mv s bt' en')) := by
      intro fuellp14_22
      induction fuellp14_22 with
      | zero => intros; omega
      | succ fuellp14_22 ihlp14_22 =>
        intro w23 rw_14 z3 c4 hR24 hF25 gr26 hv14_0 hv14_1 hv14_2 hf27
        obtain ⟨h19_28, h20_28, h21_28, h22_28, hb_28, hbl_28, hb3_28⟩ := hR24
        refine J_iload (pc := 14) dX8_byThoseThatStay_14 rfl ?_
        refine J_if_ltM (pc := 16) (tgt := 78) dX8_byThoseThatStay_16 (by decide) (by omega) (fun ht29 => ?_) (fun hf30 => ?_)
        · have hsm : SMt bt1 (fun k => c ^ hr (XM n k) n) z3 (fc n) := by
            have h := hv14_2
            rw [show c4 = 0 by omega, KK_0] at h
            exact h
          have hzb := SMt_le (B := 2187) (fun k _ => cp_bd hn2 hy3) hsm
          have hf7 := fc_7 hn2
          refine J_iload_n (pc := 78) dX8_byThoseThatStay_78 rfl rfl ?_
          refine J_aload_n (pc := 79) dX8_byThoseThatStay_79 rfl rfl rfl ?_
          refine J_callV0 (pc := 80) (M := mX8_byThoseThatStay) (as := []) dX8_byThoseThatStay_80 fw_X8_sizeNow fl_X8_102 fm_X8_sizeNow fe_X8_sizeNow h19_28 (by decide) rfl rfl rfl (c_X8_sizeNow hs (d := d - 1) (Nat.le_trans (by decide) hdm) (w := w23) (n := n) (mv := mv) (rw := rw_14) (nx := nx1) (b := b1) (bt := bt1) (kn := kn1) (en := en1) (dn := dn) (rf := rf) (kk := kk) (th := th) ⟨h19_28, h20_28, h21_28, h22_28, hb_28, hbl_28, hb3_28⟩ hn1 hn2 gm gr26 hgnx1  (kc := 0) (ks := 0)) hdp (st := [.int (nI z3)]) (Nat.le_of_ble_eq_true rfl) rfl (kr_P fun v31 hv31 => ?_) kx_I
          subst hv31
          have hsz := cnt_pos (P := bitL bt1) 5056 0 (by decide) hBT.2
          have hsz2 := cnt_le (bitL bt1) 5056
          have hm32 := Nat.mod_lt z3 (show 0 < cnt (bitL bt1) 5056 by omega)
          have hm33 := Nat.div_le_self z3 (cnt (bitL bt1) 5056)
          refine J_idivN (pc := 83) dX8_byThoseThatStay_83 (by omega) (by omega) (by omega) ?_
          exact J_iret (pc := 84) dX8_byThoseThatStay_84 rfl ⟨(congrArg nI (by exact cQ_end hn2 hBX hsm)), ⟨rw_14, nx1, b1, bt1, kn1, en1, ⟨h19_28, h20_28, h21_28, h22_28, hb_28, hbl_28, hb3_28⟩, hF25, gr26, hgnx1, (by first | rfl | assumption), (by first | assumption | exact hBX)⟩⟩
        · rw [nI_m1 hf30]
          have hb14 := hv14_1 (by omega)
          have hprev : SMt bt1 (fun k => c ^ hr (XM n k) n) z3 (c4 - 1) := by
            have h := hv14_2
            rw [KK_p (by omega)] at h
            exact h
          refine J_aload_n (pc := 19) dX8_byThoseThatStay_19 rfl rfl rfl ?_
          refine J_iload (pc := 20) dX8_byThoseThatStay_20 rfl ?_
          refine J_aload_n (pc := 22) dX8_byThoseThatStay_22 rfl rfl rfl ?_
          refine J_get (pc := 23) (k := 2) dX8_byThoseThatStay_23 kC9 (by decide) ff_X8_17 h19_28 rfl ?_
          refine J_callV0 (pc := 26) (M := mX8_byThoseThatStay) (as := [.int (nI (c4 - 1)), .ref 21]) dX8_byThoseThatStay_26 fw_X8_rowOf fl_X8_78 fm_X8_rowOf fe_X8_rowOf h19_28 (by decide) rfl rfl rfl (c_X8_rowOf hs (d := d - 1) (Nat.le_trans (by decide) hdm) (w := w23) (n := n) (mv := mv) (rw := rw_14) (nx := nx1) (b := b1) (bt := bt1) (kn := kn1) (en := en1) (dn := dn) (rf := rf) (kk := kk) (th := th) ⟨h19_28, h20_28, h21_28, h22_28, hb_28, hbl_28, hb3_28⟩ hn1 hn2 gm gr26 hgnx1 (c4 - 1) (by first | assumption | omega) (kc := 0) (ks := 0)) hdp (st := []) (Nat.le_of_ble_eq_true rfl) rfl (kr_V fun w34 hw34 => ?_) kx_V
          obtain ⟨rw34, hR34, hFc34, hgrw34, hp34_0⟩ := hw34
          obtain ⟨h19_34, h20_34, h21_34, h22_34, hbb_34, hbl_34, hb3_34⟩ := hR34
          have hF34 := hF25.tr hFc34
          have hPr := Pn_row (by omega) hp34_0
          have hrow := hp34_0
          refine J_iconst (pc := 29) (v := nI 1) dX8_byThoseThatStay_29 (by decide) ?_
          refine J_istore (pc := 30) dX8_byThoseThatStay_30 (by decide) rfl ?_
          show J X mX8_byThoseThatStay d (kc - 13) (ks - 2054) 32 [some (.ref 19), some (.int (nI s)), some (.int (nI c)), some (.int (nI z3)), some (.int (nI (c4 - 1))), some (.int (nI 1)), none] [] w34 _
          refine J_aload_n (pc := 32) dX8_byThoseThatStay_32 rfl rfl rfl ?_
          refine J_aload_n (pc := 33) dX8_byThoseThatStay_33 rfl rfl rfl ?_
          refine J_get (pc := 34) (k := 2) dX8_byThoseThatStay_34 kC9 (by decide) ff_X8_17 h19_34 rfl ?_
          refine J_iconst (pc := 37) (v := nI 0) dX8_byThoseThatStay_37 (by decide) ?_
          refine J_callV0 (pc := 38) (M := mX8_byThoseThatStay) (as := [.ref 21, .int (nI 0)]) dX8_byThoseThatStay_38 fw_X8_ringsOf fl_X8_203 fm_X8_ringsOf fe_X8_ringsOf h19_34 (by decide) rfl rfl rfl (c_X8_ringsOf_at21x hs (d := d - 1) (Nat.le_trans (by decide) hdm) (w := w34) (n := n) (mv := mv) (rw := rw34) (nx := nx1) (b := b1) (bt := bt1) (kn := kn1) (en := en1) (dn := dn) (rf := rf) (kk := kk) (th := th) ⟨h19_34, h20_34, h21_34, h22_34, hbb_34, hbl_34, hb3_34⟩ hn1 hn2 gm hgrw34 hgnx1 0 (by first | assumption | omega) (by exact Pn_z hPr) (kc := 0) (ks := 0)) hdp (st := []) (Nat.le_of_ble_eq_true rfl) rfl (kr_P fun v35 hv35 => ?_) kx_I
          subst hv35
          have hrr := hr_row (by omega) hn2 hrow
          have hcb := ct_le (Ld (fun p => rw34 (0 + p))) n
          refine J_istore (pc := 41) dX8_byThoseThatStay_41 (by decide) rfl ?_
          show J X mX8_byThoseThatStay d (kc - 13) (ks - 2054) 43 [some (.ref 19), some (.int (nI s)), some (.int (nI c)), some (.int (nI z3)), some (.int (nI (c4 - 1))), some (.int (nI 1)), some (.int (nI (ct (Ld (fun p => rw34 (0 + p))) n)))] [] w34 _
          have lp43_36 : ∀ (fuel : Nat) (y5 : Nat) (c6 : Nat), (y5 * c ^ c6 = c ^ hr (XM n (c4 - 1)) n) → (c6 ≤ 7) → (c6 < fuel) → J X mX8_byThoseThatStay d (kc - 13) (ks - 2054) 43 [some (.ref 19), some (.int (nI s)), some (.int (nI c)), some (.int (nI z3)), some (.int (nI (c4 - 1))), some (.int (nI y5)), some (.int (nI c6))] [] w34 (pI (fun v => v = nI (cQ n (Gg n (gS (mW n mv) s 6)) c)) (fun w' => ∃ (rw' : Nat → Nat), ∃ (nx' : Nat → Nat), ∃ (b' : Nat), ∃ (bt' : List Int32), ∃ (kn' : Int32), ∃ (en' : Int32), RM n mv rw' nx' b' bt' kn' en' dn rf kk th w' ∧ FR b b' w w' ∧ (∀ i, rw' i < 7) ∧ (∀ i, nx' i < 7) ∧ kn' = nI s ∧ BX n mv s bt' en')) := by
            intro fuellp43_36
            induction fuellp43_36 with
            | zero => intros; omega
            | succ fuellp43_36 ihlp43_36 =>
              intro y5 c6 hv43_0 hv43_1 hf37
              refine J_iload (pc := 43) dX8_byThoseThatStay_43 rfl ?_
              refine J_if_leN (pc := 45) (tgt := 60) dX8_byThoseThatStay_45 (by decide) (by omega) (fun ht38 => ?_) (fun hf39 => ?_)
              · have hy5 : y5 = c ^ hr (XM n (c4 - 1)) n := by
                  have h := hv43_0
                  rw [show c6 = 0 by omega, Nat.pow_zero, Nat.mul_one] at h
                  exact h
                refine J_iload_n (pc := 60) dX8_byThoseThatStay_60 rfl rfl ?_
                refine J_iload (pc := 61) dX8_byThoseThatStay_61 rfl ?_
                refine J_iaddN (pc := 63) dX8_byThoseThatStay_63 ?_
                refine J_istore_n (pc := 64) dX8_byThoseThatStay_64 rfl (by decide) rfl ?_
                show J X mX8_byThoseThatStay d (kc - 13) (ks - 2054) 65 [some (.ref 19), some (.int (nI s)), some (.int (nI c)), some (.int (nI (z3 + y5))), some (.int (nI (c4 - 1))), some (.int (nI y5)), some (.int (nI c6))] [] w34 _
                have hst : SMt bt1 (fun k => c ^ hr (XM n k) n) (z3 + y5) (c4 - 1 + 1) := SMt_s hprev hb14 hy5
                refine J_aload_n (pc := 65) dX8_byThoseThatStay_65 rfl rfl rfl ?_
                refine J_iload (pc := 66) dX8_byThoseThatStay_66 rfl ?_
                refine J_iconst (pc := 68) (v := nI 1) dX8_byThoseThatStay_68 (by decide) ?_
                refine J_iaddN (pc := 69) dX8_byThoseThatStay_69 ?_
                refine J_callV0 (pc := 70) (M := mX8_byThoseThatStay) (as := [.int (nI ((c4 - 1) + 1))]) dX8_byThoseThatStay_70 fw_X8_from fl_X8_137 fm_X8_from fe_X8_from h19_34 (by decide) rfl rfl rfl (c_X8_from hs (d := d - 1) (Nat.le_trans (by decide) hdm) (w := w34) (n := n) (mv := mv) (rw := rw34) (nx := nx1) (b := b1) (bt := bt1) (kn := kn1) (en := en1) (dn := dn) (rf := rf) (kk := kk) (th := th) ⟨h19_34, h20_34, h21_34, h22_34, hbb_34, hbl_34, hb3_34⟩ hn1 hn2 gm hgrw34 hgnx1 ((c4 - 1) + 1) (by first | assumption | omega) (kc := 0) (ks := 0)) hdp (st := []) (Nat.le_of_ble_eq_true rfl) rfl (kr_P fun v40 hv40 => ?_) kx_I
                rcases hv40 with ⟨rfl, hk40_0⟩ | ⟨q40, rfl, hk40_0, hk40_1, hk40_2, hk40_3⟩
                · refine J_istore (pc := 73) dX8_byThoseThatStay_73 (by decide) rfl ?_
                  show J X mX8_byThoseThatStay d (kc - 13) (ks - 2054) 75 [some (.ref 19), some (.int (nI s)), some (.int (nI c)), some (.int (nI (z3 + y5))), some (.int (-1)), some (.int (nI y5)), some (.int (nI c6))] [] w34 _
                  refine J_goto (pc := 75) (tgt := 14) dX8_byThoseThatStay_75 (by decide) ?_
                  exact J_sub (L' := [some (.ref 19), some (.int (nI s)), some (.int (nI c)), some (.int (nI (z3 + y5))), some (.int (nI 0 + Int32.ofInt (-1))), none, none]) ⟨rfl, ⟨rfl, ⟨rfl, ⟨rfl, ⟨(congrArg (fun z => some (Value.int z)) (by decide : (-1 : Int32) = nI 0 + Int32.ofInt (-1))), trivial⟩⟩⟩⟩⟩ (ihlp14_22 w34 rw34 (z3 + y5) 0 ⟨h19_34, h20_34, h21_34, h22_34, hbb_34, hbl_34, hb3_34⟩ hF34 hgrw34 (by first | assumption | omega) (by intro h; first | (rw [Nat.add_sub_cancel]; assumption) | omega) (by first | exact KI_0 SMt_f hst (by omega) (by assumption) | exact KI_1 SMt_f hst (by omega) (by assumption)) (by exact mu_dec (by assumption) (by omega) (by omega) (by omega)))
                · refine J_istore (pc := 73) dX8_byThoseThatStay_73 (by decide) rfl ?_
                  show J X mX8_byThoseThatStay d (kc - 13) (ks - 2054) 75 [some (.ref 19), some (.int (nI s)), some (.int (nI c)), some (.int (nI (z3 + y5))), some (.int (nI q40)), some (.int (nI y5)), some (.int (nI c6))] [] w34 _
                  refine J_goto (pc := 75) (tgt := 14) dX8_byThoseThatStay_75 (by decide) ?_
                  exact J_sub (L' := [some (.ref 19), some (.int (nI s)), some (.int (nI c)), some (.int (nI (z3 + y5))), some (.int (nI (q40 + 1) + Int32.ofInt (-1))), none, none]) ⟨rfl, ⟨rfl, ⟨rfl, ⟨rfl, ⟨(congrArg (fun z => some (Value.int z)) (nI_n1 q40)), trivial⟩⟩⟩⟩⟩ (ihlp14_22 w34 rw34 (z3 + y5) (q40 + 1) ⟨h19_34, h20_34, h21_34, h22_34, hbb_34, hbl_34, hb3_34⟩ hF34 hgrw34 (by first | assumption | omega) (by intro h; first | (rw [Nat.add_sub_cancel]; assumption) | omega) (by first | exact KI_0 SMt_f hst (by omega) (by assumption) | exact KI_1 SMt_f hst (by omega) (by assumption)) (by exact mu_dec (by assumption) (by omega) (by omega) (by omega)))
              · refine J_iload (pc := 48) dX8_byThoseThatStay_48 rfl ?_
                refine J_iload_n (pc := 50) dX8_byThoseThatStay_50 rfl rfl ?_
                refine J_imulN (pc := 51) dX8_byThoseThatStay_51 ?_
                refine J_istore (pc := 52) dX8_byThoseThatStay_52 (by decide) rfl ?_
                show J X mX8_byThoseThatStay d (kc - 13) (ks - 2054) 54 [some (.ref 19), some (.int (nI s)), some (.int (nI c)), some (.int (nI z3)), some (.int (nI (c4 - 1))), some (.int (nI (y5 * c))), some (.int (nI c6))] [] w34 _
                refine J_iincM (pc := 54) dX8_byThoseThatStay_54 rfl (by omega) (by decide) rfl ?_
                show J X mX8_byThoseThatStay d (kc - 13) (ks - 2054) 57 [some (.ref 19), some (.int (nI s)), some (.int (nI c)), some (.int (nI z3)), some (.int (nI (c4 - 1))), some (.int (nI (y5 * c))), some (.int (nI (c6 - 1)))] [] w34 _
                refine J_goto (pc := 57) (tgt := 43) dX8_byThoseThatStay_57 (by decide) ?_
                exact J_sub (L' := [some (.ref 19), some (.int (nI s)), some (.int (nI c)), some (.int (nI z3)), some (.int (nI (c4 - 1))), some (.int (nI (y5 * c))), some (.int (nI (c6 - 1)))]) ⟨rfl, ⟨rfl, ⟨rfl, ⟨rfl, ⟨rfl, ⟨rfl, ⟨rfl, trivial⟩⟩⟩⟩⟩⟩⟩ (ihlp43_36 (y5 * c) (c6 - 1) (by rw [← hv43_0]; exact pow_dn (by omega)) (by omega) (by omega))
          exact J_sub (L' := [some (.ref 19), some (.int (nI s)), some (.int (nI c)), some (.int (nI z3)), some (.int (nI (c4 - 1))), some (.int (nI 1)), some (.int (nI (ct (Ld (fun p => rw34 (0 + p))) n)))]) ⟨rfl, ⟨rfl, ⟨rfl, ⟨rfl, ⟨rfl, ⟨rfl, ⟨rfl, trivial⟩⟩⟩⟩⟩⟩⟩ (lp43_36 _ 1 (ct (Ld (fun p => rw34 (0 + p))) n) (by rw [Nat.one_mul, hrr]) (by omega) (Nat.lt_succ_self _))
    exact J_sub (L' := [some (.ref 19), some (.int (nI s)), some (.int (nI c)), some (.int (nI 0)), some (.int (nI (q2 + 1) + Int32.ofInt (-1))), none, none]) ⟨rfl, ⟨rfl, ⟨rfl, ⟨rfl, ⟨(congrArg (fun z => some (Value.int z)) (nI_n1 q2)), trivial⟩⟩⟩⟩⟩ (lp14_22 _ w1 rw1 0 (q2 + 1) ⟨h19_1, h20_1, h21_1, h22_1, hbb_1, hbl_1, hb3_1⟩ hF1 hgrw1 (by first | assumption | omega) (by intro h; first | (rw [Nat.add_sub_cancel]; assumption) | omega) (by first | exact KI_0 SMt_f SMt_0 (Nat.zero_le _) (by assumption) | exact KI_1 SMt_f SMt_0 (Nat.zero_le _) (by assumption)) (Nat.lt_succ_self _))
set_option maxRecDepth 100000 in
set_option maxHeartbeats 40000000 in
theorem c_X8_coloured_atx {X : jX} (hs : X.1.stackTraces = false) {d : Nat} (hd : 1 ≤ d) {n : Nat} {mv rw nx : Nat → Nat} {b : Nat} {bt : List Int32} {kn en dn rf kk th : Int32} {w : List jC} (hR : RM n mv rw nx b bt kn en dn rf kk th w) (hn1 : 2 ≤ n) (hn2 : n ≤ 7) (gm : ∀ i, mv i < 7) (gr : ∀ i, rw i < 7) (gx : ∀ i, nx i < 7) (a : Nat) (c : Nat) (e : Nat) (hy0 : c < 6) (hy1 : 1 ≤ e) (hy2 : e ≤ 3) (hy3 : PM n mv) (hy4 : a < 3000) {kc ks : Nat} : jMet X mX8_coloured d kc ks [.ref 19, .int (nI a), .int (nI c), .int (nI e)] w (pI (fun v => ∃ k : Nat, v = nI k ∧ k < e ^ n ∧ k = cS e n (d8 (mW n mv c)) a) (fun w' => ∃ (nx' : Nat → Nat), RM n mv rw nx' b bt kn en dn rf kk th w' ∧ FR b b w w' ∧ (∀ i, nx' i < 7))) := by
  refine jMet_of hs (by decide +kernel) (Nat.le_of_ble_eq_true rfl) (L := [some (.ref 19), some (.int (nI a)), some (.int (nI c)), some (.int (nI e)), none, none, none]) rfl ?_
  have hdm : 0 ≤ d - 1 := by omega
  have hdp : d - 1 + 1 ≤ d := by omega
  have hfc := fc_7 hn2
  have hfp := fc_pos n
  obtain ⟨h19, h20, h21, h22, hbb, hbl, hb3⟩ := hR
  have hF : FR b b w w := FR.rf
  have hpw := pw_le (e := e) (n := n) hy2 hn2
  refine J_iload_n (pc := 0) dX8_coloured_0 rfl rfl ?_
  refine J_istore (pc := 1) dX8_coloured_1 (by decide) rfl ?_
  show J X mX8_coloured d kc ks 3 [some (.ref 19), some (.int (nI a)), some (.int (nI c)), some (.int (nI e)), some (.int (nI a)), none, none] [] w _
  refine J_iconst (pc := 3) (v := nI 0) dX8_coloured_3 (by decide) ?_
  refine J_istore (pc := 4) dX8_coloured_4 (by decide) rfl ?_
  show J X mX8_coloured d kc ks 6 [some (.ref 19), some (.int (nI a)), some (.int (nI c)), some (.int (nI e)), some (.int (nI a)), some (.int (nI 0)), none] [] w _
  have lp6_1 : ∀ (fuel : Nat) (w2 : List jC) (nx_6 : Nat → Nat) (y4 : Nat) (c5 : Nat), (RM n mv rw nx_6 b bt kn en dn rf kk th w2) → (FR b b w w2) → (∀ i, nx_6 i < 7) → (∀ p, p < c5 → nx_6 (mv (c * 7 + p)) < e) → (c5 ≤ n) → (y4 < 3000) → (y4 = a / e ^ c5) → (∀ p, p < c5 → nx_6 (mv (c * 7 + p)) = a / e ^ p % e) → (n - c5 < fuel) → J X mX8_coloured d kc ks 6 [some (.ref 19), some (.int (nI a)), some (.int (nI c)), some (.int (nI e)), some (.int (nI y4)), some (.int (nI c5)), none] [] w2 (pI (fun v => ∃ k : Nat, v = nI k ∧ k < e ^ n ∧ k = cS e n (d8 (mW n mv c)) a) (fun w' => ∃ (nx' : Nat → Nat), RM n mv rw nx' b bt kn en dn rf kk th w' ∧ FR b b w w' ∧ (∀ i, nx' i < 7))) := by
    intro fuellp6_1
    induction fuellp6_1 with
    | zero => intros; omega
    | succ fuellp6_1 ihlp6_1 =>
      intro w2 nx_6 y4 c5 hR3 hF4 gx5 hv6_0 hv6_1 hv6_2 hv6_3 hv6_4 hf6
      obtain ⟨h19_7, h20_7, h21_7, h22_7, hb_7, hbl_7, hb3_7⟩ := hR3
      refine J_iload (pc := 6) dX8_coloured_6 rfl ?_
      refine J_aload_n (pc := 8) dX8_coloured_8 rfl rfl rfl ?_
      refine J_get (pc := 9) (k := 0) dX8_coloured_9 kC9 (by decide) ff_X8_7 h19_7 rfl ?_
      refine J_icmp_geN (pc := 12) (tgt := 43) dX8_coloured_12 (by decide) (by omega) (by omega) (fun ht8 => ?_) (fun hf9 => ?_)
      · have hall := col_all (e := e) (hy3 c hy0) (g := nx_6) (fun p hp => hv6_0 p (by omega))
        have hdg : ∀ p, p < n → nx_6 (mv (c * 7 + p)) = a / e ^ p % e := fun p hp => hv6_4 p (by omega)
        refine J_iconst (pc := 43) (v := nI 0) dX8_coloured_43 (by decide) ?_
        refine J_istore (pc := 44) dX8_coloured_44 (by decide) rfl ?_
        show J X mX8_coloured d kc ks 46 [some (.ref 19), some (.int (nI a)), some (.int (nI c)), some (.int (nI e)), some (.int (nI y4)), some (.int (nI 0)), none] [] w2 _
        refine J_aload_n (pc := 46) dX8_coloured_46 rfl rfl rfl ?_
        refine J_get (pc := 47) (k := 0) dX8_coloured_47 kC9 (by decide) ff_X8_7 h19_7 rfl ?_
        refine J_iconst (pc := 50) (v := nI 1) dX8_coloured_50 (by decide) ?_
        refine J_isubM (pc := 51) dX8_coloured_51 ?_
        refine J_istore (pc := 52) dX8_coloured_52 (by decide) rfl ?_
        show J X mX8_coloured d kc ks 54 [some (.ref 19), some (.int (nI a)), some (.int (nI c)), some (.int (nI e)), some (.int (nI y4)), some (.int (nI 0)), some (.int (nI n + Int32.ofInt (-1)))] [] w2 _
        have lp54_10 : ∀ (fuel : Nat) (y5 : Nat) (c6 : Nat), (y5 < e ^ (n - c6)) → (c6 ≤ n) → (y5 < 2200) → (y5 * e ^ c6 + sm (fun q => nx_6 q * e ^ q) c6 = sm (fun q => nx_6 q * e ^ q) n) → (c6 < fuel) → J X mX8_coloured d kc ks 54 [some (.ref 19), some (.int (nI a)), some (.int (nI c)), some (.int (nI e)), some (.int (nI y4)), some (.int (nI y5)), some (.int (nI c6 + Int32.ofInt (-1)))] [] w2 (pI (fun v => ∃ k : Nat, v = nI k ∧ k < e ^ n ∧ k = cS e n (d8 (mW n mv c)) a) (fun w' => ∃ (nx' : Nat → Nat), RM n mv rw nx' b bt kn en dn rf kk th w' ∧ FR b b w w' ∧ (∀ i, nx' i < 7))) := by
          intro fuellp54_10
          induction fuellp54_10 with
          | zero => intros; omega
          | succ fuellp54_10 ihlp54_10 =>
            intro y5 c6 hv54_0 hv54_1 hv54_2 hv54_3 hf11
            refine J_iload (pc := 54) dX8_coloured_54 rfl ?_
            refine J_if_ltM (pc := 56) (tgt := 79) dX8_coloured_56 (by decide) (by omega) (fun ht12 => ?_) (fun hf13 => ?_)
            · refine J_iload (pc := 79) dX8_coloured_79 rfl ?_
              exact J_iret (pc := 81) dX8_coloured_81 rfl ⟨⟨y5, rfl, by exact ⟨by rw [show n = n - c6 by omega]; exact hv54_0, (col_end (by omega) hv54_3).trans ((cS_nx (hy3 c hy0) hdg).symm.trans (cS_congr (fun p hp => (mW_d hn2 hy3 hy0 hp).symm)))⟩⟩, ⟨nx_6, ⟨h19_7, h20_7, h21_7, h22_7, hb_7, hbl_7, hb3_7⟩, hF4, gx5⟩⟩
            · rw [nI_m1 hf13]
              refine J_iload (pc := 59) dX8_coloured_59 rfl ?_
              refine J_iload_n (pc := 61) dX8_coloured_61 rfl rfl ?_
              refine J_imulN (pc := 62) dX8_coloured_62 ?_
              refine J_aload_n (pc := 63) dX8_coloured_63 rfl rfl rfl ?_
              refine J_get (pc := 64) (k := 3) dX8_coloured_64 kC9 (by decide) ff_X8_20 h19_7 rfl ?_
              refine J_iload (pc := 67) dX8_coloured_67 rfl ?_
              refine J_ialdF (pc := 69) dX8_coloured_69 h22_7 (by omega) (by decide) ?_
              have hq14 := gx5 (c6 - 1)
              refine J_iaddN (pc := 70) dX8_coloured_70 ?_
              have hnx := hall (c6 - 1) (by omega)
              have hcs := pw_step (n := n) (c := c6) hv54_0 hnx (by omega) (by omega)
              refine J_istore (pc := 71) dX8_coloured_71 (by decide) rfl ?_
              show J X mX8_coloured d kc ks 73 [some (.ref 19), some (.int (nI a)), some (.int (nI c)), some (.int (nI e)), some (.int (nI y4)), some (.int (nI ((y5 * e) + (nx_6 (c6 - 1))))), some (.int (nI (c6 - 1)))] [] w2 _
              refine J_iinc (pc := 73) dX8_coloured_73 rfl rfl (by decide) rfl ?_
              show J X mX8_coloured d kc ks 76 [some (.ref 19), some (.int (nI a)), some (.int (nI c)), some (.int (nI e)), some (.int (nI y4)), some (.int (nI ((y5 * e) + (nx_6 (c6 - 1))))), some (.int (nI (c6 - 1) + Int32.ofInt (-1)))] [] w2 _
              refine J_goto (pc := 76) (tgt := 54) dX8_coloured_76 (by decide) ?_
              exact J_sub (L' := [some (.ref 19), some (.int (nI a)), some (.int (nI c)), some (.int (nI e)), some (.int (nI y4)), some (.int (nI ((y5 * e) + (nx_6 (c6 - 1))))), some (.int (nI (c6 - 1) + Int32.ofInt (-1)))]) ⟨rfl, ⟨rfl, ⟨rfl, ⟨rfl, ⟨rfl, ⟨rfl, ⟨rfl, trivial⟩⟩⟩⟩⟩⟩⟩ (ihlp54_10 ((y5 * e) + (nx_6 (c6 - 1))) (c6 - 1) (by rw [show n - (c6 - 1) = n - c6 + 1 by omega]; exact hcs) (by first | assumption | omega) (by exact Nat.lt_of_lt_of_le hcs (Nat.le_trans (pw_le2 hy2 (by omega)) (by decide))) (by exact cS_h (by omega) hv54_3) (by omega))
        exact J_sub (L' := [some (.ref 19), some (.int (nI a)), some (.int (nI c)), some (.int (nI e)), some (.int (nI y4)), some (.int (nI 0)), some (.int (nI n + Int32.ofInt (-1)))]) ⟨rfl, ⟨rfl, ⟨rfl, ⟨rfl, ⟨rfl, ⟨rfl, ⟨rfl, trivial⟩⟩⟩⟩⟩⟩⟩ (lp54_10 _ 0 n (by rw [Nat.sub_self]; exact Nat.one_pos) (by first | assumption | omega) (by omega) (by rw [Nat.zero_mul, Nat.zero_add]) (Nat.lt_succ_self _))
      · refine J_aload_n (pc := 15) dX8_coloured_15 rfl rfl rfl ?_
        refine J_get (pc := 16) (k := 3) dX8_coloured_16 kC9 (by decide) ff_X8_20 h19_7 rfl ?_
        refine J_aload_n (pc := 19) dX8_coloured_19 rfl rfl rfl ?_
        refine J_iload_n (pc := 20) dX8_coloured_20 rfl rfl ?_
        refine J_iload (pc := 21) dX8_coloured_21 rfl ?_
        refine J_callV0 (pc := 23) (M := mX8_coloured) (as := [.int (nI c), .int (nI c5)]) dX8_coloured_23 fw_X8_at fl_X8_82 fm_X8_at fe_X8_at h19_7 (by decide) rfl rfl rfl (c_X8_at hs (d := d - 1) (Nat.le_trans (by decide) hdm) (w := w2) (n := n) (mv := mv) (rw := rw) (nx := nx_6) (b := b) (bt := bt) (kn := kn) (en := en) (dn := dn) (rf := rf) (kk := kk) (th := th) ⟨h19_7, h20_7, h21_7, h22_7, hb_7, hbl_7, hb3_7⟩ hn1 hn2 gm gr gx5 c c5 (by first | assumption | omega) (by first | assumption | omega) (kc := 0) (ks := 0)) hdp (st := [.ref 22]) (Nat.le_of_ble_eq_true rfl) rfl (kr_P fun v15 hv15 => ?_) kx_I
        subst hv15
        have hq16 := gm (c * 7 + c5)
        refine J_iload (pc := 26) dX8_coloured_26 rfl ?_
        refine J_iload_n (pc := 28) dX8_coloured_28 rfl rfl ?_
        have hm17 := Nat.mod_lt y4 (show 0 < e by omega)
        have hm18 := Nat.div_le_self y4 e
        refine J_iremN (pc := 29) dX8_coloured_29 (by omega) (by omega) (by omega) ?_
        refine J_iastF (pc := 30) dX8_coloured_30 h22_7 (by omega) (by decide) (fun w19 hln19 hc19 hne19 => ?_)
        have hg19 : ∀ i, (up nx_6 (mv (c * 7 + c5)) (y4 % e)) i < 7 := up_b gx5 (by omega)
        have h19_19 := (hne19 19 (by decide)).trans h19_7
        have h20_19 := (hne19 20 (by decide)).trans h20_7
        have h21_19 := (hne19 21 (by decide)).trans h21_7
        have hb_19 := (hne19 _ (Nat.ne_of_gt (Nat.lt_of_lt_of_le (by decide) hb3_7))).trans hb_7
        have hF19 := hF4.st hln19 hne19 (Or.inl (by decide))
        refine J_iload (pc := 31) dX8_coloured_31 rfl ?_
        refine J_iload_n (pc := 33) dX8_coloured_33 rfl rfl ?_
        have hm20 := Nat.mod_lt y4 (show 0 < e by omega)
        have hm21 := Nat.div_le_self y4 e
        refine J_idivN (pc := 34) dX8_coloured_34 (by omega) (by omega) (by omega) ?_
        refine J_istore (pc := 35) dX8_coloured_35 (by decide) rfl ?_
        show J X mX8_coloured d kc ks 37 [some (.ref 19), some (.int (nI a)), some (.int (nI c)), some (.int (nI e)), some (.int (nI (y4 / e))), some (.int (nI c5)), none] [] w19 _
        refine J_iincN (pc := 37) (b := 1) dX8_coloured_37 rfl (by decide) (by decide) rfl ?_
        show J X mX8_coloured d kc ks 40 [some (.ref 19), some (.int (nI a)), some (.int (nI c)), some (.int (nI e)), some (.int (nI (y4 / e))), some (.int (nI (c5 + 1))), none] [] w19 _
        refine J_goto (pc := 40) (tgt := 6) dX8_coloured_40 (by decide) ?_
        exact J_sub (L' := [some (.ref 19), some (.int (nI a)), some (.int (nI c)), some (.int (nI e)), some (.int (nI (y4 / e))), some (.int (nI (c5 + 1))), none]) ⟨rfl, ⟨rfl, ⟨rfl, ⟨rfl, ⟨rfl, ⟨rfl, trivial⟩⟩⟩⟩⟩⟩ (ihlp6_1 w19 (up nx_6 (mv (c * 7 + c5)) (y4 % e)) (y4 / e) (c5 + 1) ⟨h19_19, h20_19, h21_19, hc19, hb_19, hbl_7, hb3_7⟩ hF19 hg19 (by intro p hp; by_cases q : p = c5; (subst q; rw [up_s]; omega); (rw [up_n (fun q2 => q ((hy3 c hy0).2 p c5 (by omega) (by omega) q2))]; exact hv6_0 p (by omega))) (by first | assumption | omega) (by first | assumption | omega) (by rw [hv6_3]; exact dv_s) (by intro p hp; by_cases q : p = c5; (subst q; rw [up_s, hv6_3]); (rw [up_n (fun q2 => q ((hy3 c hy0).2 p c5 (by omega) (by omega) q2))]; exact hv6_4 p (by omega))) (by omega))
  exact J_sub (L' := [some (.ref 19), some (.int (nI a)), some (.int (nI c)), some (.int (nI e)), some (.int (nI a)), some (.int (nI 0)), none]) ⟨rfl, ⟨rfl, ⟨rfl, ⟨rfl, ⟨rfl, ⟨rfl, trivial⟩⟩⟩⟩⟩⟩ (lp6_1 _ w nx a 0 ⟨h19, h20, h21, h22, hbb, hbl, hb3⟩ hF gx (by intro p hp; omega) (by first | assumption | omega) (by first | assumption | omega) (by rw [Nat.pow_zero, Nat.div_one]) (by intro p hp; omega) (Nat.lt_succ_self _))
set_option maxRecDepth 100000 in
set_option maxHeartbeats 40000000 in
theorem c_X8_oneByOne_atx {X : jX} (hs : X.1.stackTraces = false) {d : Nat} (hd : 2 ≤ d) {n : Nat} {mv rw nx : Nat → Nat} {b : Nat} {bt : List Int32} {kn en dn rf kk th : Int32} {w : List jC} (hR : RM n mv rw nx b bt kn en dn rf kk th w) (hn1 : 2 ≤ n) (hn2 : n ≤ 7) (gm : ∀ i, mv i < 7) (gr : ∀ i, rw i < 7) (gx : ∀ i, nx i < 7) (s : Nat) (e : Nat) (hy0 : s < 64) (hy1 : 1 ≤ e) (hy2 : e ≤ 3) (hy3 : PM n mv) {kc ks : Nat} (hkc : 2 ≤ kc) (hks : 4374 ≤ ks) : jMet X mX8_oneByOne d kc ks [.ref 19, .int (nI s), .int (nI e)] w (pI (fun v => v = nI (ct (fun k => ∀ j, j < k → ¬ Rc e n (mW n mv) s j k) (e ^ n))) (fun w' => ∃ (nx' : Nat → Nat), RM n mv rw nx' b bt kn en dn rf kk th w' ∧ FR b b w w' ∧ (∀ i, nx' i < 7))) := by
  refine jMet_of hs (by decide +kernel) (Nat.le_of_ble_eq_true rfl) (L := [some (.ref 19), some (.int (nI s)), some (.int (nI e)), none, none, none, none, none, none, none, none, none]) rfl ?_
  have hdm : 1 ≤ d - 1 := by omega
  have hdp : d - 1 + 1 ≤ d := by omega
  have hfc := fc_7 hn2
  have hfp := fc_pos n
  obtain ⟨h19, h20, h21, h22, hbb, hbl, hb3⟩ := hR
  have hF : FR b b w w := FR.rf
  have hpw := pw_le (e := e) (n := n) hy2 hn2
  have hMW := fun c (hc : c < 6) => mW_Mv hn2 hy3 hc
  refine J_iconst (pc := 0) (v := nI 1) dX8_oneByOne_0 (by decide) ?_
  refine J_istore_n (pc := 1) dX8_oneByOne_1 rfl (by decide) rfl ?_
  show J X mX8_oneByOne d kc ks 2 [some (.ref 19), some (.int (nI s)), some (.int (nI e)), some (.int (nI 1)), none, none, none, none, none, none, none, none] [] w _
  refine J_iconst (pc := 2) (v := nI 0) dX8_oneByOne_2 (by decide) ?_
  refine J_istore (pc := 3) dX8_oneByOne_3 (by decide) rfl ?_
  show J X mX8_oneByOne d kc ks 5 [some (.ref 19), some (.int (nI s)), some (.int (nI e)), some (.int (nI 1)), some (.int (nI 0)), none, none, none, none, none, none, none] [] w _
  have lp5_1 : ∀ (fuel : Nat) (y3 : Nat) (c4 : Nat), (y3 = e ^ c4) → (c4 ≤ n) → (n - c4 < fuel) → J X mX8_oneByOne d kc ks 5 [some (.ref 19), some (.int (nI s)), some (.int (nI e)), some (.int (nI y3)), some (.int (nI c4)), none, none, none, none, none, none, none] [] w (pI (fun v => v = nI (ct (fun k => ∀ j, j < k → ¬ Rc e n (mW n mv) s j k) (e ^ n))) (fun w' => ∃ (nx' : Nat → Nat), RM n mv rw nx' b bt kn en dn rf kk th w' ∧ FR b b w w' ∧ (∀ i, nx' i < 7))) := by
    intro fuellp5_1
    induction fuellp5_1 with
    | zero => intros; omega
    | succ fuellp5_1 ihlp5_1 =>
      intro y3 c4 hv5_0 hv5_1 hf2
      refine J_iload (pc := 5) dX8_oneByOne_5 rfl ?_
      refine J_aload_n (pc := 7) dX8_oneByOne_7 rfl rfl rfl ?_
      refine J_get (pc := 8) (k := 0) dX8_oneByOne_8 kC9 (by decide) ff_X8_7 h19 rfl ?_
      refine J_icmp_geN (pc := 11) (tgt := 24) dX8_oneByOne_11 (by decide) (by omega) (by omega) (fun ht3 => ?_) (fun hf4 => ?_)
      · have hy3e : y3 = e ^ n := by rw [hv5_0, show c4 = n by omega]
        have hy31 : 1 ≤ y3 := by rw [hy3e]; exact Nat.pow_pos hy1
        refine J_iload_n (pc := 24) dX8_oneByOne_24 rfl rfl ?_
        refine J_newW (pc := 25) (M := mX8_oneByOne) (N := y3) dX8_oneByOne_25 fa_int rfl (by omega) (by omega) (by omega) (fun a25 w5 ha5 hln5 hc5 hne5 => ?_)
        have q195 := gl h19
        have q205 := gl h20
        have q215 := gl h21
        have q225 := gl h22
        have qb5 := gl hbb
        have qF5 := hF.1
        have h19_5 := (hne5 19 (by omega)).trans h19
        have h20_5 := (hne5 20 (by omega)).trans h20
        have h21_5 := (hne5 21 (by omega)).trans h21
        have h22_5 := (hne5 22 (by omega)).trans h22
        have hb_5 := (hne5 _ (by omega)).trans hbb
        have hF5 := hF.pu ha5 hln5 hne5
        rw [aF_0] at hc5
        refine J_astore (pc := 27) dX8_oneByOne_27 (by decide) rfl rfl ?_
        show J X mX8_oneByOne d (kc - 1) (ks - y3) 29 [some (.ref 19), some (.int (nI s)), some (.int (nI e)), some (.int (nI y3)), some (.ref a25), none, none, none, none, none, none, none] [] w5 _
        refine J_iconst (pc := 29) (v := nI 0) dX8_oneByOne_29 (by decide) ?_
        refine J_istore (pc := 30) dX8_oneByOne_30 (by decide) rfl ?_
        show J X mX8_oneByOne d (kc - 1) (ks - y3) 32 [some (.ref 19), some (.int (nI s)), some (.int (nI e)), some (.int (nI y3)), some (.ref a25), some (.int (nI 0)), none, none, none, none, none, none] [] w5 _
        refine J_iload_n (pc := 32) dX8_oneByOne_32 rfl rfl ?_
        refine J_newW (pc := 33) (M := mX8_oneByOne) (N := y3) dX8_oneByOne_33 fa_int rfl (by omega) (by omega) (by omega) (fun a33 w6 ha6 hln6 hc6 hne6 => ?_)
        have q196 := gl h19_5
        have q206 := gl h20_5
        have q216 := gl h21_5
        have q226 := gl h22_5
        have qb6 := gl hb_5
        have qa256 := gl hc5
        have qF6 := hF5.1
        have h19_6 := (hne6 19 (by omega)).trans h19_5
        have h20_6 := (hne6 20 (by omega)).trans h20_5
        have h21_6 := (hne6 21 (by omega)).trans h21_5
        have h22_6 := (hne6 22 (by omega)).trans h22_5
        have hb_6 := (hne6 _ (by omega)).trans hb_5
        have hla25_6 := (hne6 a25 (by omega)).trans hc5
        have hF6 := hF5.pu ha6 hln6 hne6
        rw [aF_0] at hc6
        refine J_astore (pc := 35) dX8_oneByOne_35 (by decide) rfl rfl ?_
        show J X mX8_oneByOne d (kc - 1 - 1) (ks - y3 - y3) 37 [some (.ref 19), some (.int (nI s)), some (.int (nI e)), some (.int (nI y3)), some (.ref a25), some (.int (nI 0)), some (.ref a33), none, none, none, none, none] [] w6 _
        refine J_iconst (pc := 37) (v := nI 0) dX8_oneByOne_37 (by decide) ?_
        refine J_istore (pc := 38) dX8_oneByOne_38 (by decide) rfl ?_
        show J X mX8_oneByOne d (kc - 1 - 1) (ks - y3 - y3) 40 [some (.ref 19), some (.int (nI s)), some (.int (nI e)), some (.int (nI y3)), some (.ref a25), some (.int (nI 0)), some (.ref a33), some (.int (nI 0)), none, none, none, none] [] w6 _
        have lp40_7 : ∀ (fuel : Nat) (w8 : List jC) (nx_40 : Nat → Nat) (f25_40 : Nat → Nat) (f33_40 : Nat → Nat) (z5 : Nat) (c7 : Nat), (RM n mv rw nx_40 b bt kn en dn rf kk th w8) → (FR b b w w8) → (∀ i, nx_40 i < 7) → (w8[a25]? = some (aF y3 f25_40)) → (w8[a33]? = some (aF y3 f33_40)) → (∀ i, f25_40 i < 2) → (∀ i, f33_40 i < y3) → (c7 ≤ y3) → (QZ e n (mW n mv) s f25_40 c7) → (z5 = ct (fun k => ∀ j, j < k → ¬ Rc e n (mW n mv) s j k) c7) → (y3 - c7 < fuel) → J X mX8_oneByOne d (kc - 1 - 1) (ks - y3 - y3) 40 [some (.ref 19), some (.int (nI s)), some (.int (nI e)), some (.int (nI y3)), some (.ref a25), some (.int (nI z5)), some (.ref a33), some (.int (nI c7)), none, none, none, none] [] w8 (pI (fun v => v = nI (ct (fun k => ∀ j, j < k → ¬ Rc e n (mW n mv) s j k) (e ^ n))) (fun w' => ∃ (nx' : Nat → Nat), RM n mv rw nx' b bt kn en dn rf kk th w' ∧ FR b b w w' ∧ (∀ i, nx' i < 7))) := by
          intro fuellp40_7
          induction fuellp40_7 with
          | zero => intros; omega
          | succ fuellp40_7 ihlp40_7 =>
            intro w8 nx_40 f25_40 f33_40 z5 c7 hR9 hF10 gx11 hl12 hl13 hv40_0 hv40_1 hv40_2 hv40_3 hv40_4 hf14
            obtain ⟨h19_15, h20_15, h21_15, h22_15, hb_15, hbl_15, hb3_15⟩ := hR9
            refine J_iload (pc := 40) dX8_oneByOne_40 rfl ?_
            refine J_iload_n (pc := 42) dX8_oneByOne_42 rfl rfl ?_
            refine J_icmp_geN (pc := 43) (tgt := 167) dX8_oneByOne_43 (by decide) (by omega) (by omega) (fun ht16 => ?_) (fun hf17 => ?_)
            · refine J_iload (pc := 167) dX8_oneByOne_167 rfl ?_
              exact J_iret (pc := 169) dX8_oneByOne_169 rfl ⟨(congrArg nI (by rw [hv40_4, show c7 = e ^ n by omega])), ⟨nx_40, ⟨h19_15, h20_15, h21_15, h22_15, hb_15, hbl_15, hb3_15⟩, hF10, gx11⟩⟩
            · refine J_aload (pc := 46) dX8_oneByOne_46 rfl rfl ?_
              refine J_iload (pc := 48) dX8_oneByOne_48 rfl ?_
              refine J_ialdF (pc := 50) dX8_oneByOne_50 hl12 (by omega) (by omega) ?_
              refine J_iconst (pc := 51) (v := nI 1) dX8_oneByOne_51 (by decide) ?_
              have hq52 := hv40_0 c7
              refine J_icmp_neN (pc := 52) (tgt := 58) dX8_oneByOne_52 (by decide) (by omega) (by omega) (fun ht18 => ?_) (fun hf19 => ?_)
              · refine J_iincN (pc := 58) (b := 1) dX8_oneByOne_58 rfl (by decide) (by decide) rfl ?_
                show J X mX8_oneByOne d (kc - 1 - 1) (ks - y3 - y3) 61 [some (.ref 19), some (.int (nI s)), some (.int (nI e)), some (.int (nI y3)), some (.ref a25), some (.int (nI (z5 + 1))), some (.ref a33), some (.int (nI c7)), none, none, none, none] [] w8 _
                refine J_aload (pc := 61) dX8_oneByOne_61 rfl rfl ?_
                refine J_iload (pc := 63) dX8_oneByOne_63 rfl ?_
                refine J_iconst (pc := 65) (v := nI 1) dX8_oneByOne_65 (by decide) ?_
                refine J_iastF (pc := 66) dX8_oneByOne_66 hl12 (by omega) (by omega) (fun w20 hln20 hc20 hne20 => ?_)
                have h19_20 := (hne20 19 (by omega)).trans h19_15
                have h20_20 := (hne20 20 (by omega)).trans h20_15
                have h21_20 := (hne20 21 (by omega)).trans h21_15
                have h22_20 := (hne20 22 (by omega)).trans h22_15
                have hb_20 := (hne20 _ (by omega)).trans hb_15
                have hla33_20 := (hne20 a33 (by omega)).trans hl13
                have hF20 := hF10.st hln20 hne20 (Or.inr (Or.inr (by omega)))
                refine J_aload (pc := 67) dX8_oneByOne_67 rfl rfl ?_
                refine J_iconst (pc := 69) (v := nI 0) dX8_oneByOne_69 (by decide) ?_
                refine J_iload (pc := 70) dX8_oneByOne_70 rfl ?_
                refine J_iastF (pc := 72) dX8_oneByOne_72 hla33_20 (by omega) (by omega) (fun w21 hln21 hc21 hne21 => ?_)
                have h19_21 := (hne21 19 (by omega)).trans h19_20
                have h20_21 := (hne21 20 (by omega)).trans h20_20
                have h21_21 := (hne21 21 (by omega)).trans h21_20
                have h22_21 := (hne21 22 (by omega)).trans h22_20
                have hb_21 := (hne21 _ (by omega)).trans hb_20
                have hla25_21 := (hne21 a25 (by omega)).trans hc20
                have hF21 := hF20.st hln21 hne21 (Or.inr (Or.inr (by omega)))
                refine J_iconst (pc := 73) (v := nI 1) dX8_oneByOne_73 (by decide) ?_
                refine J_istore (pc := 74) dX8_oneByOne_74 (by decide) rfl ?_
                show J X mX8_oneByOne d (kc - 1 - 1) (ks - y3 - y3) 76 [some (.ref 19), some (.int (nI s)), some (.int (nI e)), some (.int (nI y3)), some (.ref a25), some (.int (nI (z5 + 1))), some (.ref a33), some (.int (nI c7)), some (.int (nI 1)), none, none, none] [] w21 _
                have lp76_22 : ∀ (fuel : Nat) (w23 : List jC) (nx_76 : Nat → Nat) (f25_76 : Nat → Nat) (f33_76 : Nat → Nat) (c8 : Nat), (RM n mv rw nx_76 b bt kn en dn rf kk th w23) → (FR b b w w23) → (∀ i, nx_76 i < 7) → (w23[a25]? = some (aF y3 f25_76)) → (w23[a33]? = some (aF y3 f33_76)) → (∀ i, f25_76 i < 2) → (∀ i, f33_76 i < y3) → (c8 ≤ (cnt (fun i => f25_76 i == 1) y3)) → (ZI e n (mW n mv) s f25_76 f33_76 c7 c8) → (2 * (y3 - (cnt (fun i => f25_76 i == 1) y3)) + c8 < fuel) → J X mX8_oneByOne d (kc - 1 - 1) (ks - y3 - y3) 76 [some (.ref 19), some (.int (nI s)), some (.int (nI e)), some (.int (nI y3)), some (.ref a25), some (.int (nI (z5 + 1))), some (.ref a33), some (.int (nI c7)), some (.int (nI c8)), none, none, none] [] w23 (pI (fun v => v = nI (ct (fun k => ∀ j, j < k → ¬ Rc e n (mW n mv) s j k) (e ^ n))) (fun w' => ∃ (nx' : Nat → Nat), RM n mv rw nx' b bt kn en dn rf kk th w' ∧ FR b b w w' ∧ (∀ i, nx' i < 7))) := by
                  intro fuellp76_22
                  induction fuellp76_22 with
                  | zero => intros; omega
                  | succ fuellp76_22 ihlp76_22 =>
                    intro w23 nx_76 f25_76 f33_76 c8 hR24 hF25 gx26 hl27 hl28 hv76_0 hv76_1 hv76_2 hv76_3 hf29
                    obtain ⟨h19_30, h20_30, h21_30, h22_30, hb_30, hbl_30, hb3_30⟩ := hR24
                    have hcs76 := cnt_le (fun i => f25_76 i == 1) y3
                    refine J_iload (pc := 76) dX8_oneByOne_76 rfl ?_
                    refine J_if_leN (pc := 78) (tgt := 161) dX8_oneByOne_78 (by decide) (by omega) (fun ht31 => ?_) (fun hf32 => ?_)
                    · refine J_iincN (pc := 161) (b := 1) dX8_oneByOne_161 rfl (by decide) (by decide) rfl ?_
                      show J X mX8_oneByOne d (kc - 1 - 1) (ks - y3 - y3) 164 [some (.ref 19), some (.int (nI s)), some (.int (nI e)), some (.int (nI y3)), some (.ref a25), some (.int (nI (z5 + 1))), some (.ref a33), some (.int (nI (c7 + 1))), some (.int (nI c8)), none, none, none] [] w23 _
                      refine J_goto (pc := 164) (tgt := 40) dX8_oneByOne_164 (by decide) ?_
                      exact J_sub (L' := [some (.ref 19), some (.int (nI s)), some (.int (nI e)), some (.int (nI y3)), some (.ref a25), some (.int (nI (z5 + 1))), some (.ref a33), some (.int (nI (c7 + 1))), none, none, none, none]) ⟨rfl, ⟨rfl, ⟨rfl, ⟨rfl, ⟨rfl, ⟨rfl, ⟨rfl, ⟨rfl, trivial⟩⟩⟩⟩⟩⟩⟩⟩ (ihlp40_7 w23 nx_76 f25_76 f33_76 (z5 + 1) (c7 + 1) ⟨h19_30, h20_30, h21_30, h22_30, hb_30, hbl_30, hb3_30⟩ hF25 gx26 hl27 hl28 (by assumption) (by assumption) (by first | assumption | omega) (by first | exact QZ_s hy1 hMW hv76_3 (by omega) (by omega) | exact QZ_y hv40_3 (by assumption) (by omega)) (by first | exact (congrArg Nat.succ hv40_4).trans (QZ_c1 hv40_3 (by assumption) (by omega)) | exact hv40_4.trans (QZ_c0 hv40_3 (by assumption) (by omega))) (by omega))
                    · refine J_iincM (pc := 81) dX8_oneByOne_81 rfl (by omega) (by decide) rfl ?_
                      show J X mX8_oneByOne d (kc - 1 - 1) (ks - y3 - y3) 84 [some (.ref 19), some (.int (nI s)), some (.int (nI e)), some (.int (nI y3)), some (.ref a25), some (.int (nI (z5 + 1))), some (.ref a33), some (.int (nI c7)), some (.int (nI (c8 - 1))), none, none, none] [] w23 _
                      refine J_aload (pc := 84) dX8_oneByOne_84 rfl rfl ?_
                      refine J_iload (pc := 86) dX8_oneByOne_86 rfl ?_
                      refine J_ialdF (pc := 88) dX8_oneByOne_88 hl28 (by omega) (by omega) ?_
                      have hq89 := hv76_1 (c8 - 1)
                      refine J_istore (pc := 89) dX8_oneByOne_89 (by decide) rfl ?_
                      show J X mX8_oneByOne d (kc - 1 - 1) (ks - y3 - y3) 91 [some (.ref 19), some (.int (nI s)), some (.int (nI e)), some (.int (nI y3)), some (.ref a25), some (.int (nI (z5 + 1))), some (.ref a33), some (.int (nI c7)), some (.int (nI (c8 - 1))), some (.int (nI (f33_76 (c8 - 1)))), none, none] [] w23 _
                      refine J_iconst (pc := 91) (v := nI 0) dX8_oneByOne_91 (by decide) ?_
                      refine J_istore (pc := 92) dX8_oneByOne_92 (by decide) rfl ?_
                      show J X mX8_oneByOne d (kc - 1 - 1) (ks - y3 - y3) 94 [some (.ref 19), some (.int (nI s)), some (.int (nI e)), some (.int (nI y3)), some (.ref a25), some (.int (nI (z5 + 1))), some (.ref a33), some (.int (nI c7)), some (.int (nI (c8 - 1))), some (.int (nI (f33_76 (c8 - 1)))), some (.int (nI 0)), none] [] w23 _
                      have lp94_33 : ∀ (fuel : Nat) (w34 : List jC) (nx_94 : Nat → Nat) (f25_94 : Nat → Nat) (f33_94 : Nat → Nat) (x8 : Nat) (c10 : Nat), (RM n mv rw nx_94 b bt kn en dn rf kk th w34) → (FR b b w w34) → (∀ i, nx_94 i < 7) → (w34[a25]? = some (aF y3 f25_94)) → (w34[a33]? = some (aF y3 f33_94)) → (∀ i, f25_94 i < 2) → (∀ i, f33_94 i < y3) → (x8 ≤ (cnt (fun i => f25_94 i == 1) y3)) → (2 * (y3 - (cnt (fun i => f25_94 i == 1) y3)) + x8 + 1 ≤ 2 * (y3 - cnt (fun i => f25_76 i == 1) y3) + c8) → (ZJ e n (mW n mv) s f25_94 f33_94 c7 x8 (f33_76 (c8 - 1)) c10) → (c10 ≤ 6) → (6 - c10 < fuel) → J X mX8_oneByOne d (kc - 1 - 1) (ks - y3 - y3) 94 [some (.ref 19), some (.int (nI s)), some (.int (nI e)), some (.int (nI y3)), some (.ref a25), some (.int (nI (z5 + 1))), some (.ref a33), some (.int (nI c7)), some (.int (nI x8)), some (.int (nI (f33_76 (c8 - 1)))), some (.int (nI c10)), none] [] w34 (pI (fun v => v = nI (ct (fun k => ∀ j, j < k → ¬ Rc e n (mW n mv) s j k) (e ^ n))) (fun w' => ∃ (nx' : Nat → Nat), RM n mv rw nx' b bt kn en dn rf kk th w' ∧ FR b b w w' ∧ (∀ i, nx' i < 7))) := by
                        intro fuellp94_33
                        induction fuellp94_33 with
                        | zero => intros; omega
                        | succ fuellp94_33 ihlp94_33 =>
                          intro w34 nx_94 f25_94 f33_94 x8 c10 hR35 hF36 gx37 hl38 hl39 hv94_0 hv94_1 hv94_2 hv94_3 hv94_4 hv94_5 hf40
                          obtain ⟨h19_41, h20_41, h21_41, h22_41, hb_41, hbl_41, hb3_41⟩ := hR35
                          refine J_iload (pc := 94) dX8_oneByOne_94 rfl ?_
                          refine J_bipush (pc := 96) (v := nI 6) dX8_oneByOne_96 (by decide) ?_
                          refine J_icmp_geN (pc := 98) (tgt := 158) dX8_oneByOne_98 (by decide) (by omega) (by omega) (fun ht42 => ?_) (fun hf43 => ?_)
                          · refine J_goto (pc := 158) (tgt := 76) dX8_oneByOne_158 (by decide) ?_
                            exact J_sub (L' := [some (.ref 19), some (.int (nI s)), some (.int (nI e)), some (.int (nI y3)), some (.ref a25), some (.int (nI (z5 + 1))), some (.ref a33), some (.int (nI c7)), some (.int (nI x8)), none, none, none]) ⟨rfl, ⟨rfl, ⟨rfl, ⟨rfl, ⟨rfl, ⟨rfl, ⟨rfl, ⟨rfl, ⟨rfl, trivial⟩⟩⟩⟩⟩⟩⟩⟩⟩ (ihlp76_22 w34 nx_94 f25_94 f33_94 x8 ⟨h19_41, h20_41, h21_41, h22_41, hb_41, hbl_41, hb3_41⟩ hF36 gx37 hl38 hl39 (by assumption) (by assumption) (by omega) (by exact ZI_1 hv94_4 (by omega)) (by omega))
                          · refine J_iload_n (pc := 101) dX8_oneByOne_101 rfl rfl ?_
                            refine J_iload (pc := 102) dX8_oneByOne_102 rfl ?_
                            refine J_ishrN (pc := 104) dX8_oneByOne_104 (by omega) (by omega) ?_
                            refine J_iconst (pc := 105) (v := nI 1) dX8_oneByOne_105 (by decide) ?_
                            have hm44 := Nat.mod_lt (s / 2 ^ c10) (show 0 < 2 ^ 1 by decide)
                            have hm45 := Nat.div_le_self s (2 ^ c10)
                            refine J_iandN (pc := 106) 1 dX8_oneByOne_106 (by omega) (by decide) ?_
                            refine J_if_neN (pc := 107) (tgt := 113) dX8_oneByOne_107 (by decide) (by omega) (fun ht46 => ?_) (fun hf47 => ?_)
                            · refine J_aload_n (pc := 113) dX8_oneByOne_113 rfl rfl rfl ?_
                              refine J_iload (pc := 114) dX8_oneByOne_114 rfl ?_
                              refine J_iload (pc := 116) dX8_oneByOne_116 rfl ?_
                              refine J_iload_n (pc := 118) dX8_oneByOne_118 rfl rfl ?_
                              refine J_callV0 (pc := 119) (M := mX8_oneByOne) (as := [.int (nI (f33_76 (c8 - 1))), .int (nI c10), .int (nI e)]) dX8_oneByOne_119 fw_X8_coloured fl_X8_206 fm_X8_coloured fe_X8_coloured h19_41 (by decide) rfl rfl rfl (c_X8_coloured_atx hs (d := d - 1) (Nat.le_trans (by decide) hdm) (w := w34) (n := n) (mv := mv) (rw := rw) (nx := nx_94) (b := b) (bt := bt) (kn := kn) (en := en) (dn := dn) (rf := rf) (kk := kk) (th := th) ⟨h19_41, h20_41, h21_41, h22_41, hb_41, hbl_41, hb3_41⟩ hn1 hn2 gm gr gx37 (f33_76 (c8 - 1)) c10 e (by first | assumption | omega) (by first | assumption | omega) (by first | assumption | omega) (by first | assumption | omega) (by first | assumption | omega) (kc := 0) (ks := 0)) hdp (st := []) (Nat.le_of_ble_eq_true rfl) rfl (kr_I fun v48 w48 hv48 hw48 => ?_) kx_I
                              obtain ⟨nx48, hR48, hFc48, hgnx48⟩ := hw48
                              obtain ⟨h19_48, h20_48, h21_48, h22_48, hbb_48, hbl_48, hb3_48⟩ := hR48
                              have hla25_48 := hFc48.at hl38 (by omega) (by omega)
                              have hla33_48 := hFc48.at hl39 (by omega) (by omega)
                              have hF48 := hF36.tr hFc48
                              obtain ⟨k48, rfl, hk48⟩ := hv48
                              have hco := hk48.2
                              refine J_istore (pc := 122) dX8_oneByOne_122 (by decide) rfl ?_
                              show J X mX8_oneByOne d (kc - 1 - 1) (ks - y3 - y3) 124 [some (.ref 19), some (.int (nI s)), some (.int (nI e)), some (.int (nI y3)), some (.ref a25), some (.int (nI (z5 + 1))), some (.ref a33), some (.int (nI c7)), some (.int (nI x8)), some (.int (nI (f33_76 (c8 - 1)))), some (.int (nI c10)), some (.int (nI k48))] [] w48 _
                              refine J_aload (pc := 124) dX8_oneByOne_124 rfl rfl ?_
                              refine J_iload (pc := 126) dX8_oneByOne_126 rfl ?_
                              refine J_ialdF (pc := 128) dX8_oneByOne_128 hla25_48 (by omega) (by omega) ?_
                              refine J_iconst (pc := 129) (v := nI 1) dX8_oneByOne_129 (by decide) ?_
                              have hq130 := hv94_0 k48
                              refine J_icmp_neN (pc := 130) (tgt := 136) dX8_oneByOne_130 (by decide) (by omega) (by omega) (fun ht49 => ?_) (fun hf50 => ?_)
                              · have hcu := cnt_up1 (P := f25_94) (K := y3) (j := k48) (by omega) (by omega)
                                refine J_aload (pc := 136) dX8_oneByOne_136 rfl rfl ?_
                                refine J_iload (pc := 138) dX8_oneByOne_138 rfl ?_
                                refine J_iconst (pc := 140) (v := nI 1) dX8_oneByOne_140 (by decide) ?_
                                refine J_iastF (pc := 141) dX8_oneByOne_141 hla25_48 (by omega) (by omega) (fun w51 hln51 hc51 hne51 => ?_)
                                have h19_51 := (hne51 19 (by omega)).trans h19_48
                                have h20_51 := (hne51 20 (by omega)).trans h20_48
                                have h21_51 := (hne51 21 (by omega)).trans h21_48
                                have h22_51 := (hne51 22 (by omega)).trans h22_48
                                have hb_51 := (hne51 _ (by omega)).trans hbb_48
                                have hla33_51 := (hne51 a33 (by omega)).trans hla33_48
                                have hF51 := hF48.st hln51 hne51 (Or.inr (Or.inr (by omega)))
                                refine J_aload (pc := 142) dX8_oneByOne_142 rfl rfl ?_
                                refine J_iload (pc := 144) dX8_oneByOne_144 rfl ?_
                                refine J_iload (pc := 146) dX8_oneByOne_146 rfl ?_
                                refine J_iastF (pc := 148) dX8_oneByOne_148 hla33_51 (by omega) (by omega) (fun w52 hln52 hc52 hne52 => ?_)
                                have h19_52 := (hne52 19 (by omega)).trans h19_51
                                have h20_52 := (hne52 20 (by omega)).trans h20_51
                                have h21_52 := (hne52 21 (by omega)).trans h21_51
                                have h22_52 := (hne52 22 (by omega)).trans h22_51
                                have hb_52 := (hne52 _ (by omega)).trans hb_51
                                have hla25_52 := (hne52 a25 (by omega)).trans hc51
                                have hF52 := hF51.st hln52 hne52 (Or.inr (Or.inr (by omega)))
                                refine J_iincN (pc := 149) (b := 1) dX8_oneByOne_149 rfl (by decide) (by decide) rfl ?_
                                show J X mX8_oneByOne d (kc - 1 - 1) (ks - y3 - y3) 152 [some (.ref 19), some (.int (nI s)), some (.int (nI e)), some (.int (nI y3)), some (.ref a25), some (.int (nI (z5 + 1))), some (.ref a33), some (.int (nI c7)), some (.int (nI (x8 + 1))), some (.int (nI (f33_76 (c8 - 1)))), some (.int (nI c10)), some (.int (nI k48))] [] w52 _
                                refine J_iincN (pc := 152) (b := 1) dX8_oneByOne_152 rfl (by decide) (by decide) rfl ?_
                                show J X mX8_oneByOne d (kc - 1 - 1) (ks - y3 - y3) 155 [some (.ref 19), some (.int (nI s)), some (.int (nI e)), some (.int (nI y3)), some (.ref a25), some (.int (nI (z5 + 1))), some (.ref a33), some (.int (nI c7)), some (.int (nI (x8 + 1))), some (.int (nI (f33_76 (c8 - 1)))), some (.int (nI (c10 + 1))), some (.int (nI k48))] [] w52 _
                                refine J_goto (pc := 155) (tgt := 94) dX8_oneByOne_155 (by decide) ?_
                                exact J_sub (L' := [some (.ref 19), some (.int (nI s)), some (.int (nI e)), some (.int (nI y3)), some (.ref a25), some (.int (nI (z5 + 1))), some (.ref a33), some (.int (nI c7)), some (.int (nI (x8 + 1))), some (.int (nI (f33_76 (c8 - 1)))), some (.int (nI (c10 + 1))), none]) ⟨rfl, ⟨rfl, ⟨rfl, ⟨rfl, ⟨rfl, ⟨rfl, ⟨rfl, ⟨rfl, ⟨rfl, ⟨rfl, ⟨rfl, trivial⟩⟩⟩⟩⟩⟩⟩⟩⟩⟩⟩ (ihlp94_33 w52 nx48 (up f25_94 k48 1) (up f33_94 x8 k48) (x8 + 1) (c10 + 1) ⟨h19_52, h20_52, h21_52, h22_52, hb_52, hbl_48, hb3_48⟩ hF52 hgnx48 hla25_52 hc52 (by first | assumption | exact up_b hv94_0 (by decide)) (by first | assumption | exact up_b hv94_1 (by omega)) (by first | assumption | omega) (by first | assumption | omega) (by first | exact ZJ_s hv94_4 (by omega) (by omega) (tb_1 (by omega)) (by assumption) | exact ZJ_k hv94_4 (by assumption) (by assumption) | exact ZJ_n hv94_4 (tb_0 (by omega))) (by first | assumption | omega) (by omega))
                              · refine J_goto (pc := 133) (tgt := 152) dX8_oneByOne_133 (by decide) ?_
                                refine J_iincN (pc := 152) (b := 1) dX8_oneByOne_152 rfl (by decide) (by decide) rfl ?_
                                show J X mX8_oneByOne d (kc - 1 - 1) (ks - y3 - y3) 155 [some (.ref 19), some (.int (nI s)), some (.int (nI e)), some (.int (nI y3)), some (.ref a25), some (.int (nI (z5 + 1))), some (.ref a33), some (.int (nI c7)), some (.int (nI x8)), some (.int (nI (f33_76 (c8 - 1)))), some (.int (nI (c10 + 1))), some (.int (nI k48))] [] w48 _
                                refine J_goto (pc := 155) (tgt := 94) dX8_oneByOne_155 (by decide) ?_
                                exact J_sub (L' := [some (.ref 19), some (.int (nI s)), some (.int (nI e)), some (.int (nI y3)), some (.ref a25), some (.int (nI (z5 + 1))), some (.ref a33), some (.int (nI c7)), some (.int (nI x8)), some (.int (nI (f33_76 (c8 - 1)))), some (.int (nI (c10 + 1))), none]) ⟨rfl, ⟨rfl, ⟨rfl, ⟨rfl, ⟨rfl, ⟨rfl, ⟨rfl, ⟨rfl, ⟨rfl, ⟨rfl, ⟨rfl, trivial⟩⟩⟩⟩⟩⟩⟩⟩⟩⟩⟩ (ihlp94_33 w48 nx48 f25_94 f33_94 x8 (c10 + 1) ⟨h19_48, h20_48, h21_48, h22_48, hbb_48, hbl_48, hb3_48⟩ hF48 hgnx48 hla25_48 hla33_48 (by first | assumption | exact up_b hv94_0 (by decide)) (by first | assumption | exact up_b hv94_1 (by omega)) (by first | assumption | omega) (by first | assumption | omega) (by first | exact ZJ_s hv94_4 (by omega) (by omega) (tb_1 (by omega)) (by assumption) | exact ZJ_k hv94_4 (by assumption) (by assumption) | exact ZJ_n hv94_4 (tb_0 (by omega))) (by first | assumption | omega) (by omega))
                            · refine J_goto (pc := 110) (tgt := 152) dX8_oneByOne_110 (by decide) ?_
                              refine J_iincN (pc := 152) (b := 1) dX8_oneByOne_152 rfl (by decide) (by decide) rfl ?_
                              show J X mX8_oneByOne d (kc - 1 - 1) (ks - y3 - y3) 155 [some (.ref 19), some (.int (nI s)), some (.int (nI e)), some (.int (nI y3)), some (.ref a25), some (.int (nI (z5 + 1))), some (.ref a33), some (.int (nI c7)), some (.int (nI x8)), some (.int (nI (f33_76 (c8 - 1)))), some (.int (nI (c10 + 1))), none] [] w34 _
                              refine J_goto (pc := 155) (tgt := 94) dX8_oneByOne_155 (by decide) ?_
                              exact J_sub (L' := [some (.ref 19), some (.int (nI s)), some (.int (nI e)), some (.int (nI y3)), some (.ref a25), some (.int (nI (z5 + 1))), some (.ref a33), some (.int (nI c7)), some (.int (nI x8)), some (.int (nI (f33_76 (c8 - 1)))), some (.int (nI (c10 + 1))), none]) ⟨rfl, ⟨rfl, ⟨rfl, ⟨rfl, ⟨rfl, ⟨rfl, ⟨rfl, ⟨rfl, ⟨rfl, ⟨rfl, ⟨rfl, trivial⟩⟩⟩⟩⟩⟩⟩⟩⟩⟩⟩ (ihlp94_33 w34 nx_94 f25_94 f33_94 x8 (c10 + 1) ⟨h19_41, h20_41, h21_41, h22_41, hb_41, hbl_41, hb3_41⟩ hF36 gx37 hl38 hl39 (by first | assumption | exact up_b hv94_0 (by decide)) (by first | assumption | exact up_b hv94_1 (by omega)) (by first | assumption | omega) (by first | assumption | omega) (by first | exact ZJ_s hv94_4 (by omega) (by omega) (tb_1 (by omega)) (by assumption) | exact ZJ_k hv94_4 (by assumption) (by assumption) | exact ZJ_n hv94_4 (tb_0 (by omega))) (by first | assumption | omega) (by omega))
                      exact J_sub (L' := [some (.ref 19), some (.int (nI s)), some (.int (nI e)), some (.int (nI y3)), some (.ref a25), some (.int (nI (z5 + 1))), some (.ref a33), some (.int (nI c7)), some (.int (nI (c8 - 1))), some (.int (nI (f33_76 (c8 - 1)))), some (.int (nI 0)), none]) ⟨rfl, ⟨rfl, ⟨rfl, ⟨rfl, ⟨rfl, ⟨rfl, ⟨rfl, ⟨rfl, ⟨rfl, ⟨rfl, ⟨rfl, trivial⟩⟩⟩⟩⟩⟩⟩⟩⟩⟩⟩ (lp94_33 _ w23 nx_76 f25_76 f33_76 (c8 - 1) 0 ⟨h19_30, h20_30, h21_30, h22_30, hb_30, hbl_30, hb3_30⟩ hF25 gx26 hl27 hl28 (by assumption) (by assumption) (by omega) (by omega) (by exact ZJ_0 hv76_3 (by omega)) (by first | assumption | omega) (Nat.lt_succ_self _))
                exact J_sub (L' := [some (.ref 19), some (.int (nI s)), some (.int (nI e)), some (.int (nI y3)), some (.ref a25), some (.int (nI (z5 + 1))), some (.ref a33), some (.int (nI c7)), some (.int (nI 1)), none, none, none]) ⟨rfl, ⟨rfl, ⟨rfl, ⟨rfl, ⟨rfl, ⟨rfl, ⟨rfl, ⟨rfl, ⟨rfl, trivial⟩⟩⟩⟩⟩⟩⟩⟩⟩ (lp76_22 _ w21 nx_40 (up f25_40 c7 1) (up f33_40 0 c7) 1 ⟨h19_21, h20_21, h21_21, h22_21, hb_21, hbl_15, hb3_15⟩ hF21 gx11 hla25_21 hc21 (by exact up_b hv40_0 (by decide)) (by exact up_b hv40_1 (by omega)) (by exact cnt_pos _ c7 (by omega) (by rw [up_s]; rfl)) (by exact ZI_0 hy1 hMW hv40_3 (by omega)) (Nat.lt_succ_self _))
              · refine J_goto (pc := 55) (tgt := 161) dX8_oneByOne_55 (by decide) ?_
                refine J_iincN (pc := 161) (b := 1) dX8_oneByOne_161 rfl (by decide) (by decide) rfl ?_
                show J X mX8_oneByOne d (kc - 1 - 1) (ks - y3 - y3) 164 [some (.ref 19), some (.int (nI s)), some (.int (nI e)), some (.int (nI y3)), some (.ref a25), some (.int (nI z5)), some (.ref a33), some (.int (nI (c7 + 1))), none, none, none, none] [] w8 _
                refine J_goto (pc := 164) (tgt := 40) dX8_oneByOne_164 (by decide) ?_
                exact J_sub (L' := [some (.ref 19), some (.int (nI s)), some (.int (nI e)), some (.int (nI y3)), some (.ref a25), some (.int (nI z5)), some (.ref a33), some (.int (nI (c7 + 1))), none, none, none, none]) ⟨rfl, ⟨rfl, ⟨rfl, ⟨rfl, ⟨rfl, ⟨rfl, ⟨rfl, ⟨rfl, trivial⟩⟩⟩⟩⟩⟩⟩⟩ (ihlp40_7 w8 nx_40 f25_40 f33_40 z5 (c7 + 1) ⟨h19_15, h20_15, h21_15, h22_15, hb_15, hbl_15, hb3_15⟩ hF10 gx11 hl12 hl13 (by assumption) (by assumption) (by first | assumption | omega) (by first | exact QZ_s hy1 hMW hv76_3 (by omega) (by omega) | exact QZ_y hv40_3 (by assumption) (by omega)) (by first | exact (congrArg Nat.succ hv40_4).trans (QZ_c1 hv40_3 (by assumption) (by omega)) | exact hv40_4.trans (QZ_c0 hv40_3 (by assumption) (by omega))) (by omega))
        exact J_sub (L' := [some (.ref 19), some (.int (nI s)), some (.int (nI e)), some (.int (nI y3)), some (.ref a25), some (.int (nI 0)), some (.ref a33), some (.int (nI 0)), none, none, none, none]) ⟨rfl, ⟨rfl, ⟨rfl, ⟨rfl, ⟨rfl, ⟨rfl, ⟨rfl, ⟨rfl, trivial⟩⟩⟩⟩⟩⟩⟩⟩ (lp40_7 _ w6 nx (fun _ => 0) (fun _ => 0) 0 0 ⟨h19_6, h20_6, h21_6, h22_6, hb_6, hbl, hb3⟩ hF6 gx hla25_6 hc6 (by intro i; decide) (by intro i; exact hy31) (by first | assumption | omega) (by exact QZ_0) (by rfl) (Nat.lt_succ_self _))
      · refine J_iload_n (pc := 14) dX8_oneByOne_14 rfl rfl ?_
        refine J_iload_n (pc := 15) dX8_oneByOne_15 rfl rfl ?_
        refine J_imulN (pc := 16) dX8_oneByOne_16 ?_
        refine J_istore_n (pc := 17) dX8_oneByOne_17 rfl (by decide) rfl ?_
        show J X mX8_oneByOne d kc ks 18 [some (.ref 19), some (.int (nI s)), some (.int (nI e)), some (.int (nI (y3 * e))), some (.int (nI c4)), none, none, none, none, none, none, none] [] w _
        refine J_iincN (pc := 18) (b := 1) dX8_oneByOne_18 rfl (by decide) (by decide) rfl ?_
        show J X mX8_oneByOne d kc ks 21 [some (.ref 19), some (.int (nI s)), some (.int (nI e)), some (.int (nI (y3 * e))), some (.int (nI (c4 + 1))), none, none, none, none, none, none, none] [] w _
        refine J_goto (pc := 21) (tgt := 5) dX8_oneByOne_21 (by decide) ?_
        exact J_sub (L' := [some (.ref 19), some (.int (nI s)), some (.int (nI e)), some (.int (nI (y3 * e))), some (.int (nI (c4 + 1))), none, none, none, none, none, none, none]) ⟨rfl, ⟨rfl, ⟨rfl, ⟨rfl, ⟨rfl, trivial⟩⟩⟩⟩⟩ (ihlp5_1 (y3 * e) (c4 + 1) (by rw [hv5_0]; exact (Nat.pow_succ e c4).symm) (by first | assumption | omega) (by omega))
  exact J_sub (L' := [some (.ref 19), some (.int (nI s)), some (.int (nI e)), some (.int (nI 1)), some (.int (nI 0)), none, none, none, none, none, none, none]) ⟨rfl, ⟨rfl, ⟨rfl, ⟨rfl, ⟨rfl, trivial⟩⟩⟩⟩⟩ (lp5_1 _ 1 0 (by rfl) (by first | assumption | omega) (Nat.lt_succ_self _))
set_option maxRecDepth 100000 in
set_option maxHeartbeats 40000000 in
theorem c_X8_colourings_ate {X : jX} (hs : X.1.stackTraces = false) {d : Nat} (hd : 5 ≤ d) {n : Nat} {mv rw nx : Nat → Nat} {b : Nat} {bt : List Int32} {kn en dn rf kk th : Int32} {w : List jC} (hR : RM n mv rw nx b bt kn en dn rf kk th w) (hn1 : 2 ≤ n) (hn2 : n ≤ 7) (gm : ∀ i, mv i < 7) (gr : ∀ i, rw i < 7) (gx : ∀ i, nx i < 7) (s : Int32) (c : Int32) (e : Int32) (hy0 : PM n mv) (hy1 : KX n mv kn bt en) {kc ks : Nat} (hkc : 15 ≤ kc) (hks : 6428 ≤ ks) : jMet X mX8_colourings d kc ks [.ref 19, .int s, .int c, .int e] w (pJ (fun v w' => ∃ (rw' : Nat → Nat), ∃ (nx' : Nat → Nat), ∃ (b' : Nat), ∃ (bt' : List Int32), ∃ (kn' : Int32), ∃ (en' : Int32), ∃ (th' : Int32), RM n mv rw' nx' b' bt' kn' en' dn rf kk th' w' ∧ FR b b' w w' ∧ (∀ i, rw' i < 7) ∧ (∀ i, nx' i < 7) ∧ KX n mv kn' bt' en' ∧ ((th' = nI 1 ∧ ¬ (isN s 64 ∧ (nI 1 ≤ c ∧ c ≤ nI 3) ∧ isN e 2)) ∨ (th' = nI 0 ∧ ∃ a1 b1 c1 : Nat, s = nI a1 ∧ c = nI b1 ∧ e = nI c1 ∧ a1 < 64 ∧ b1 < 4 ∧ c1 < 2 ∧ (nI 1 ≤ c ∧ c ≤ nI 3) ∧ ((c1 = 0 ∧ v = nI (cQ n (Gg n (gS (mW n mv) a1 6)) b1)) ∨ (¬ c1 = 0 ∧ v = nI (ct (fun k => ∀ j, j < k → ¬ Rc b1 n (mW n mv) a1 j k) (b1 ^ n)))))))) := by
  refine jMet_of hs (by decide +kernel) (Nat.le_of_ble_eq_true rfl) (L := [some (.ref 19), some (.int s), some (.int c), some (.int e)]) rfl ?_
  have hdm : 4 ≤ d - 1 := by omega
  have hdp : d - 1 + 1 ≤ d := by omega
  have hfc := fc_7 hn2
  have hfp := fc_pos n
  obtain ⟨h19, h20, h21, h22, hbb, hbl, hb3⟩ := hR
  have hF : FR b b w w := FR.rf
  refine J_aload_n (pc := 0) dX8_colourings_0 rfl rfl rfl ?_
  refine J_iload_n (pc := 1) dX8_colourings_1 rfl rfl ?_
  refine J_callS0 (pc := 2) (M := mX8_colourings) (as := [.int s]) dX8_colourings_2 fw_X8_isSet fl_X8_134 fs_X8_isSet rfl (c_X8_isSet hs (d := d - 1) (Nat.le_trans (by decide) hdm) (w := w) s (kc := 0) (ks := 0)) hdp (st := [.ref 19]) (Nat.le_of_ble_eq_true rfl) rfl (kr_P fun v1 hv1 => ?_) kx_I
  rcases hv1 with ⟨rfl, hk1_0⟩ | ⟨q1, rfl, hk1_0, rfl⟩
  · refine J_if_eqN (pc := 5) (tgt := 27) dX8_colourings_5 (by decide) (by decide) (fun _ => ?_) (fun h => absurd h (by decide))
    refine J_iconst (pc := 27) (v := nI 1) dX8_colourings_27 (by decide) ?_
    refine J_goto (pc := 28) (tgt := 32) dX8_colourings_28 (by decide) ?_
    refine J_callV0 (pc := 32) (M := mX8_colourings) (as := [.int (nI 1)]) dX8_colourings_32 fw_X8_isThrown_ fl_X8_105 fm_X8_isThrown_ fe_X8_isThrown_ h19 (by decide) rfl rfl rfl (c_X8_isThrown_ hs (d := d - 1) (Nat.le_trans (by decide) hdm) (w := w) (n := n) (mv := mv) (rw := rw) (nx := nx) (b := b) (bt := bt) (kn := kn) (en := en) (dn := dn) (rf := rf) (kk := kk) (th := th) ⟨h19, h20, h21, h22, hbb, hbl, hb3⟩ hn1 hn2 gm gr gx 1 (by first | assumption | omega) (kc := 0) (ks := 0)) hdp (st := []) (Nat.le_of_ble_eq_true rfl) rfl (kr_I fun v2 w2 hv2 hw2 => ?_) kx_I
    obtain ⟨hR2, hFc2⟩ := hw2
    obtain ⟨h19_2, h20_2, h21_2, h22_2, hbb_2, hbl_2, hb3_2⟩ := hR2
    have hF2 := hF.tr hFc2
    subst hv2
    show J X mX8_colourings d kc ks 35 [some (.ref 19), some (.int s), some (.int c), some (.int e)] [.int (nI 1)] w2 _
    refine J_if_eqN (pc := 35) (tgt := 40) dX8_colourings_35 (by decide) (by decide) (fun h => absurd h (by decide)) (fun _ => ?_)
    refine J_iconst (pc := 38) (v := nI 0) dX8_colourings_38 (by decide) ?_
    exact J_iret (pc := 39) dX8_colourings_39 rfl (⟨rw, nx, b, bt, kn, en, nI (tW 1 0), ⟨h19_2, h20_2, h21_2, h22_2, hbb_2, hbl_2, hb3_2⟩, hF2, gr, gx, (by first | assumption | exact KX_i (by assumption) (by assumption) (by first | rfl | assumption)), (by first | exact Or.inl ⟨rfl, fun g => (by first | exact ne_isN (by assumption) g.1 | exact Int32.not_lt.mpr g.2.1.1 (by assumption) | exact absurd g.2.1.2 (by assumption) | exact absurd g.2.1.2 (Int32.not_le.mpr (by assumption)) | (obtain ⟨k, hk, ek⟩ := g.2.2; subst ek; first | exact absurd (by assumption) (nI_pos (n := k) (by omega)) | exact absurd ((nI_leI (a := k) (b := 1) (by omega) (by omega)).mpr (by omega)) (by assumption)))⟩ | (obtain ⟨kc, hkc2, ekc⟩ := isN_2c (by assumption) (by first | assumption | exact Int32.not_lt.mp (by assumption)); exact Or.inr ⟨rfl, _, _, kc, rfl, rfl, ekc, by omega, by omega, hkc2, ⟨(nI_leI (by omega) (by omega)).mpr (by omega), (nI_leI (by omega) (by omega)).mpr (by omega)⟩, (by subst ekc; first | exact Or.inl ⟨nI_0z hkc2 (by assumption), rfl⟩ | exact Or.inr ⟨fun q => absurd ((congrArg nI q).trans nI_0) (by assumption), rfl⟩)⟩))⟩)
  · refine J_if_eqN (pc := 5) (tgt := 27) dX8_colourings_5 (by decide) (by decide) (fun h => absurd h (by decide)) (fun _ => ?_)
    refine J_iload_n (pc := 8) dX8_colourings_8 rfl rfl ?_
    refine J_iconst (pc := 9) (v := nI 1) dX8_colourings_9 (by decide) ?_
    refine J_icmp_lt (pc := 10) (tgt := 27) dX8_colourings_10 (by decide) (fun ht3 => ?_) (fun hf4 => ?_)
    · refine J_iconst (pc := 27) (v := nI 1) dX8_colourings_27 (by decide) ?_
      refine J_goto (pc := 28) (tgt := 32) dX8_colourings_28 (by decide) ?_
      refine J_callV0 (pc := 32) (M := mX8_colourings) (as := [.int (nI 1)]) dX8_colourings_32 fw_X8_isThrown_ fl_X8_105 fm_X8_isThrown_ fe_X8_isThrown_ h19 (by decide) rfl rfl rfl (c_X8_isThrown_ hs (d := d - 1) (Nat.le_trans (by decide) hdm) (w := w) (n := n) (mv := mv) (rw := rw) (nx := nx) (b := b) (bt := bt) (kn := kn) (en := en) (dn := dn) (rf := rf) (kk := kk) (th := th) ⟨h19, h20, h21, h22, hbb, hbl, hb3⟩ hn1 hn2 gm gr gx 1 (by first | assumption | omega) (kc := 0) (ks := 0)) hdp (st := []) (Nat.le_of_ble_eq_true rfl) rfl (kr_I fun v5 w5 hv5 hw5 => ?_) kx_I
      obtain ⟨hR5, hFc5⟩ := hw5
      obtain ⟨h19_5, h20_5, h21_5, h22_5, hbb_5, hbl_5, hb3_5⟩ := hR5
      have hF5 := hF.tr hFc5
      subst hv5
      show J X mX8_colourings d kc ks 35 [some (.ref 19), some (.int (nI q1)), some (.int c), some (.int e)] [.int (nI 1)] w5 _
      refine J_if_eqN (pc := 35) (tgt := 40) dX8_colourings_35 (by decide) (by decide) (fun h => absurd h (by decide)) (fun _ => ?_)
      refine J_iconst (pc := 38) (v := nI 0) dX8_colourings_38 (by decide) ?_
      exact J_iret (pc := 39) dX8_colourings_39 rfl (⟨rw, nx, b, bt, kn, en, nI (tW 1 0), ⟨h19_5, h20_5, h21_5, h22_5, hbb_5, hbl_5, hb3_5⟩, hF5, gr, gx, (by first | assumption | exact KX_i (by assumption) (by assumption) (by first | rfl | assumption)), (by first | exact Or.inl ⟨rfl, fun g => (by first | exact ne_isN (by assumption) g.1 | exact Int32.not_lt.mpr g.2.1.1 (by assumption) | exact absurd g.2.1.2 (by assumption) | exact absurd g.2.1.2 (Int32.not_le.mpr (by assumption)) | (obtain ⟨k, hk, ek⟩ := g.2.2; subst ek; first | exact absurd (by assumption) (nI_pos (n := k) (by omega)) | exact absurd ((nI_leI (a := k) (b := 1) (by omega) (by omega)).mpr (by omega)) (by assumption)))⟩ | (obtain ⟨kc, hkc2, ekc⟩ := isN_2c (by assumption) (by first | assumption | exact Int32.not_lt.mp (by assumption)); exact Or.inr ⟨rfl, _, _, kc, rfl, rfl, ekc, by omega, by omega, hkc2, ⟨(nI_leI (by omega) (by omega)).mpr (by omega), (nI_leI (by omega) (by omega)).mpr (by omega)⟩, (by subst ekc; first | exact Or.inl ⟨nI_0z hkc2 (by assumption), rfl⟩ | exact Or.inr ⟨fun q => absurd ((congrArg nI q).trans nI_0) (by assumption), rfl⟩)⟩))⟩)
    · refine J_iload_n (pc := 13) dX8_colourings_13 rfl rfl ?_
      refine J_iconst (pc := 14) (v := nI 3) dX8_colourings_14 (by decide) ?_
      refine J_icmp_gt (pc := 15) (tgt := 27) dX8_colourings_15 (by decide) (fun ht6 => ?_) (fun hf7 => ?_)
      · refine J_iconst (pc := 27) (v := nI 1) dX8_colourings_27 (by decide) ?_
        refine J_goto (pc := 28) (tgt := 32) dX8_colourings_28 (by decide) ?_
        refine J_callV0 (pc := 32) (M := mX8_colourings) (as := [.int (nI 1)]) dX8_colourings_32 fw_X8_isThrown_ fl_X8_105 fm_X8_isThrown_ fe_X8_isThrown_ h19 (by decide) rfl rfl rfl (c_X8_isThrown_ hs (d := d - 1) (Nat.le_trans (by decide) hdm) (w := w) (n := n) (mv := mv) (rw := rw) (nx := nx) (b := b) (bt := bt) (kn := kn) (en := en) (dn := dn) (rf := rf) (kk := kk) (th := th) ⟨h19, h20, h21, h22, hbb, hbl, hb3⟩ hn1 hn2 gm gr gx 1 (by first | assumption | omega) (kc := 0) (ks := 0)) hdp (st := []) (Nat.le_of_ble_eq_true rfl) rfl (kr_I fun v8 w8 hv8 hw8 => ?_) kx_I
        obtain ⟨hR8, hFc8⟩ := hw8
        obtain ⟨h19_8, h20_8, h21_8, h22_8, hbb_8, hbl_8, hb3_8⟩ := hR8
        have hF8 := hF.tr hFc8
        subst hv8
        show J X mX8_colourings d kc ks 35 [some (.ref 19), some (.int (nI q1)), some (.int c), some (.int e)] [.int (nI 1)] w8 _
        refine J_if_eqN (pc := 35) (tgt := 40) dX8_colourings_35 (by decide) (by decide) (fun h => absurd h (by decide)) (fun _ => ?_)
        refine J_iconst (pc := 38) (v := nI 0) dX8_colourings_38 (by decide) ?_
        exact J_iret (pc := 39) dX8_colourings_39 rfl (⟨rw, nx, b, bt, kn, en, nI (tW 1 0), ⟨h19_8, h20_8, h21_8, h22_8, hbb_8, hbl_8, hb3_8⟩, hF8, gr, gx, (by first | assumption | exact KX_i (by assumption) (by assumption) (by first | rfl | assumption)), (by first | exact Or.inl ⟨rfl, fun g => (by first | exact ne_isN (by assumption) g.1 | exact Int32.not_lt.mpr g.2.1.1 (by assumption) | exact absurd g.2.1.2 (by assumption) | exact absurd g.2.1.2 (Int32.not_le.mpr (by assumption)) | (obtain ⟨k, hk, ek⟩ := g.2.2; subst ek; first | exact absurd (by assumption) (nI_pos (n := k) (by omega)) | exact absurd ((nI_leI (a := k) (b := 1) (by omega) (by omega)).mpr (by omega)) (by assumption)))⟩ | (obtain ⟨kc, hkc2, ekc⟩ := isN_2c (by assumption) (by first | assumption | exact Int32.not_lt.mp (by assumption)); exact Or.inr ⟨rfl, _, _, kc, rfl, rfl, ekc, by omega, by omega, hkc2, ⟨(nI_leI (by omega) (by omega)).mpr (by omega), (nI_leI (by omega) (by omega)).mpr (by omega)⟩, (by subst ekc; first | exact Or.inl ⟨nI_0z hkc2 (by assumption), rfl⟩ | exact Or.inr ⟨fun q => absurd ((congrArg nI q).trans nI_0) (by assumption), rfl⟩)⟩))⟩)
      · refine J_iload_n (pc := 18) dX8_colourings_18 rfl rfl ?_
        refine J_if_lt (pc := 19) (tgt := 27) dX8_colourings_19 (by decide) (fun ht9 => ?_) (fun hf10 => ?_)
        · refine J_iconst (pc := 27) (v := nI 1) dX8_colourings_27 (by decide) ?_
          refine J_goto (pc := 28) (tgt := 32) dX8_colourings_28 (by decide) ?_
          refine J_callV0 (pc := 32) (M := mX8_colourings) (as := [.int (nI 1)]) dX8_colourings_32 fw_X8_isThrown_ fl_X8_105 fm_X8_isThrown_ fe_X8_isThrown_ h19 (by decide) rfl rfl rfl (c_X8_isThrown_ hs (d := d - 1) (Nat.le_trans (by decide) hdm) (w := w) (n := n) (mv := mv) (rw := rw) (nx := nx) (b := b) (bt := bt) (kn := kn) (en := en) (dn := dn) (rf := rf) (kk := kk) (th := th) ⟨h19, h20, h21, h22, hbb, hbl, hb3⟩ hn1 hn2 gm gr gx 1 (by first | assumption | omega) (kc := 0) (ks := 0)) hdp (st := []) (Nat.le_of_ble_eq_true rfl) rfl (kr_I fun v11 w11 hv11 hw11 => ?_) kx_I
          obtain ⟨hR11, hFc11⟩ := hw11
          obtain ⟨h19_11, h20_11, h21_11, h22_11, hbb_11, hbl_11, hb3_11⟩ := hR11
          have hF11 := hF.tr hFc11
          subst hv11
          show J X mX8_colourings d kc ks 35 [some (.ref 19), some (.int (nI q1)), some (.int c), some (.int e)] [.int (nI 1)] w11 _
          refine J_if_eqN (pc := 35) (tgt := 40) dX8_colourings_35 (by decide) (by decide) (fun h => absurd h (by decide)) (fun _ => ?_)
          refine J_iconst (pc := 38) (v := nI 0) dX8_colourings_38 (by decide) ?_
          exact J_iret (pc := 39) dX8_colourings_39 rfl (⟨rw, nx, b, bt, kn, en, nI (tW 1 0), ⟨h19_11, h20_11, h21_11, h22_11, hbb_11, hbl_11, hb3_11⟩, hF11, gr, gx, (by first | assumption | exact KX_i (by assumption) (by assumption) (by first | rfl | assumption)), (by first | exact Or.inl ⟨rfl, fun g => (by first | exact ne_isN (by assumption) g.1 | exact Int32.not_lt.mpr g.2.1.1 (by assumption) | exact absurd g.2.1.2 (by assumption) | exact absurd g.2.1.2 (Int32.not_le.mpr (by assumption)) | (obtain ⟨k, hk, ek⟩ := g.2.2; subst ek; first | exact absurd (by assumption) (nI_pos (n := k) (by omega)) | exact absurd ((nI_leI (a := k) (b := 1) (by omega) (by omega)).mpr (by omega)) (by assumption)))⟩ | (obtain ⟨kc, hkc2, ekc⟩ := isN_2c (by assumption) (by first | assumption | exact Int32.not_lt.mp (by assumption)); exact Or.inr ⟨rfl, _, _, kc, rfl, rfl, ekc, by omega, by omega, hkc2, ⟨(nI_leI (by omega) (by omega)).mpr (by omega), (nI_leI (by omega) (by omega)).mpr (by omega)⟩, (by subst ekc; first | exact Or.inl ⟨nI_0z hkc2 (by assumption), rfl⟩ | exact Or.inr ⟨fun q => absurd ((congrArg nI q).trans nI_0) (by assumption), rfl⟩)⟩))⟩)
        · refine J_iload_n (pc := 22) dX8_colourings_22 rfl rfl ?_
          refine J_iconst (pc := 23) (v := nI 1) dX8_colourings_23 (by decide) ?_
          refine J_icmp_le (pc := 24) (tgt := 31) dX8_colourings_24 (by decide) (fun ht12 => ?_) (fun hf13 => ?_)
          · refine J_iconst (pc := 31) (v := nI 0) dX8_colourings_31 (by decide) ?_
            refine J_callV0 (pc := 32) (M := mX8_colourings) (as := [.int (nI 0)]) dX8_colourings_32 fw_X8_isThrown_ fl_X8_105 fm_X8_isThrown_ fe_X8_isThrown_ h19 (by decide) rfl rfl rfl (c_X8_isThrown_ hs (d := d - 1) (Nat.le_trans (by decide) hdm) (w := w) (n := n) (mv := mv) (rw := rw) (nx := nx) (b := b) (bt := bt) (kn := kn) (en := en) (dn := dn) (rf := rf) (kk := kk) (th := th) ⟨h19, h20, h21, h22, hbb, hbl, hb3⟩ hn1 hn2 gm gr gx 0 (by first | assumption | omega) (kc := 0) (ks := 0)) hdp (st := []) (Nat.le_of_ble_eq_true rfl) rfl (kr_I fun v14 w14 hv14 hw14 => ?_) kx_I
            obtain ⟨hR14, hFc14⟩ := hw14
            obtain ⟨h19_14, h20_14, h21_14, h22_14, hbb_14, hbl_14, hb3_14⟩ := hR14
            have hF14 := hF.tr hFc14
            subst hv14
            show J X mX8_colourings d kc ks 35 [some (.ref 19), some (.int (nI q1)), some (.int c), some (.int e)] [.int (nI 0)] w14 _
            refine J_if_eqN (pc := 35) (tgt := 40) dX8_colourings_35 (by decide) (by decide) (fun _ => ?_) (fun h => absurd h (by decide))
            obtain ⟨k15, hk15a, hk15b, rfl⟩ := nI_btw (x := c) (a := 1) (b := 3) (Int32.not_lt.mp (by assumption)) (Int32.not_lt.mp (by assumption)) (by omega) (by omega)
            refine J_iload_n (pc := 40) dX8_colourings_40 rfl rfl ?_
            refine J_if_ne (pc := 41) (tgt := 53) dX8_colourings_41 (by decide) (fun ht16 => ?_) (fun hf17 => ?_)
            · refine J_aload_n (pc := 53) dX8_colourings_53 rfl rfl rfl ?_
              refine J_iload_n (pc := 54) dX8_colourings_54 rfl rfl ?_
              refine J_iload_n (pc := 55) dX8_colourings_55 rfl rfl ?_
              refine J_callV (pc := 56) (M := mX8_colourings) (as := [.int (nI q1), .int (nI k15)]) dX8_colourings_56 fw_X8_oneByOne fl_X8_200 fm_X8_oneByOne fe_X8_oneByOne h19_14 (by decide) rfl rfl rfl (c_X8_oneByOne_atx hs (d := d - 1) (Nat.le_trans (by decide) hdm) (w := w14) (n := n) (mv := mv) (rw := rw) (nx := nx) (b := b) (bt := bt) (kn := kn) (en := en) (dn := dn) (rf := rf) (kk := kk) (th := nI (tW 0 0)) ⟨h19_14, h20_14, h21_14, h22_14, hbb_14, hbl_14, hb3_14⟩ hn1 hn2 gm gr gx q1 k15 (by first | assumption | omega) (by first | assumption | omega) (by first | assumption | omega) (by first | assumption | omega) (kc := 2) (ks := 4374) (Nat.le_refl _) (Nat.le_refl _)) hdp (by omega) (by omega) (st := []) (Nat.le_of_ble_eq_true rfl) rfl (kr_I fun v18 w18 hv18 hw18 => ?_) kx_I
              obtain ⟨nx18, hR18, hFc18, hgnx18⟩ := hw18
              obtain ⟨h19_18, h20_18, h21_18, h22_18, hbb_18, hbl_18, hb3_18⟩ := hR18
              have hF18 := hF14.tr hFc18
              subst hv18
              exact J_iret (pc := 59) dX8_colourings_59 rfl (⟨rw, nx18, b, bt, kn, en, nI (tW 0 0), ⟨h19_18, h20_18, h21_18, h22_18, hbb_18, hbl_18, hb3_18⟩, hF18, gr, hgnx18, (by first | assumption | exact KX_i (by assumption) (by assumption) (by first | rfl | assumption)), (by first | exact Or.inl ⟨rfl, fun g => (by first | exact ne_isN (by assumption) g.1 | exact Int32.not_lt.mpr g.2.1.1 (by assumption) | exact absurd g.2.1.2 (by assumption) | exact absurd g.2.1.2 (Int32.not_le.mpr (by assumption)) | (obtain ⟨k, hk, ek⟩ := g.2.2; subst ek; first | exact absurd (by assumption) (nI_pos (n := k) (by omega)) | exact absurd ((nI_leI (a := k) (b := 1) (by omega) (by omega)).mpr (by omega)) (by assumption)))⟩ | (obtain ⟨kc, hkc2, ekc⟩ := isN_2c (by assumption) (by first | assumption | exact Int32.not_lt.mp (by assumption)); exact Or.inr ⟨rfl, _, _, kc, rfl, rfl, ekc, by omega, by omega, hkc2, ⟨(nI_leI (by omega) (by omega)).mpr (by omega), (nI_leI (by omega) (by omega)).mpr (by omega)⟩, (by subst ekc; first | exact Or.inl ⟨nI_0z hkc2 (by assumption), rfl⟩ | exact Or.inr ⟨fun q => absurd ((congrArg nI q).trans nI_0) (by assumption), rfl⟩)⟩))⟩)
            · refine J_aload_n (pc := 44) dX8_colourings_44 rfl rfl rfl ?_
              refine J_iload_n (pc := 45) dX8_colourings_45 rfl rfl ?_
              refine J_iload_n (pc := 46) dX8_colourings_46 rfl rfl ?_
              refine J_callV (pc := 47) (M := mX8_colourings) (as := [.int (nI q1), .int (nI k15)]) dX8_colourings_47 fw_X8_byThoseThatStay fl_X8_197 fm_X8_byThoseThatStay fe_X8_byThoseThatStay h19_14 (by decide) rfl rfl rfl (c_X8_byThoseThatStay_atx hs (d := d - 1) (Nat.le_trans (by decide) hdm) (w := w14) (n := n) (mv := mv) (rw := rw) (nx := nx) (b := b) (bt := bt) (kn := kn) (en := en) (dn := dn) (rf := rf) (kk := kk) (th := nI (tW 0 0)) ⟨h19_14, h20_14, h21_14, h22_14, hbb_14, hbl_14, hb3_14⟩ hn1 hn2 gm gr gx q1 k15 (by first | assumption | omega) (by first | assumption | omega) (by first | assumption | omega) (by first | assumption | omega) (kc := 13) (ks := 2054) (Nat.le_refl _) (Nat.le_refl _)) hdp (by omega) (by omega) (st := []) (Nat.le_of_ble_eq_true rfl) rfl (kr_I fun v19 w19 hv19 hw19 => ?_) kx_I
              obtain ⟨rw19, nx19, b19, bt19, kn19, en19, hR19, hFc19, hgrw19, hgnx19, hp19_0, hp19_1⟩ := hw19
              obtain ⟨h19_19, h20_19, h21_19, h22_19, hbb_19, hbl_19, hb3_19⟩ := hR19
              have qd19 := hFc19.2.1
              have hF19 := hF14.tr hFc19
              subst hv19
              refine J_goto (pc := 50) (tgt := 59) dX8_colourings_50 (by decide) ?_
              exact J_iret (pc := 59) dX8_colourings_59 rfl (⟨rw19, nx19, b19, bt19, kn19, en19, nI (tW 0 0), ⟨h19_19, h20_19, h21_19, h22_19, hbb_19, hbl_19, hb3_19⟩, hF19, hgrw19, hgnx19, (by first | assumption | exact KX_i (by assumption) (by assumption) (by first | rfl | assumption)), (by first | exact Or.inl ⟨rfl, fun g => (by first | exact ne_isN (by assumption) g.1 | exact Int32.not_lt.mpr g.2.1.1 (by assumption) | exact absurd g.2.1.2 (by assumption) | exact absurd g.2.1.2 (Int32.not_le.mpr (by assumption)) | (obtain ⟨k, hk, ek⟩ := g.2.2; subst ek; first | exact absurd (by assumption) (nI_pos (n := k) (by omega)) | exact absurd ((nI_leI (a := k) (b := 1) (by omega) (by omega)).mpr (by omega)) (by assumption)))⟩ | (obtain ⟨kc, hkc2, ekc⟩ := isN_2c (by assumption) (by first | assumption | exact Int32.not_lt.mp (by assumption)); exact Or.inr ⟨rfl, _, _, kc, rfl, rfl, ekc, by omega, by omega, hkc2, ⟨(nI_leI (by omega) (by omega)).mpr (by omega), (nI_leI (by omega) (by omega)).mpr (by omega)⟩, (by subst ekc; first | exact Or.inl ⟨nI_0z hkc2 (by assumption), rfl⟩ | exact Or.inr ⟨fun q => absurd ((congrArg nI q).trans nI_0) (by assumption), rfl⟩)⟩))⟩)
          · refine J_iconst (pc := 27) (v := nI 1) dX8_colourings_27 (by decide) ?_
            refine J_goto (pc := 28) (tgt := 32) dX8_colourings_28 (by decide) ?_
            refine J_callV0 (pc := 32) (M := mX8_colourings) (as := [.int (nI 1)]) dX8_colourings_32 fw_X8_isThrown_ fl_X8_105 fm_X8_isThrown_ fe_X8_isThrown_ h19 (by decide) rfl rfl rfl (c_X8_isThrown_ hs (d := d - 1) (Nat.le_trans (by decide) hdm) (w := w) (n := n) (mv := mv) (rw := rw) (nx := nx) (b := b) (bt := bt) (kn := kn) (en := en) (dn := dn) (rf := rf) (kk := kk) (th := th) ⟨h19, h20, h21, h22, hbb, hbl, hb3⟩ hn1 hn2 gm gr gx 1 (by first | assumption | omega) (kc := 0) (ks := 0)) hdp (st := []) (Nat.le_of_ble_eq_true rfl) rfl (kr_I fun v20 w20 hv20 hw20 => ?_) kx_I
            obtain ⟨hR20, hFc20⟩ := hw20
            obtain ⟨h19_20, h20_20, h21_20, h22_20, hbb_20, hbl_20, hb3_20⟩ := hR20
            have hF20 := hF.tr hFc20
            subst hv20
            show J X mX8_colourings d kc ks 35 [some (.ref 19), some (.int (nI q1)), some (.int c), some (.int e)] [.int (nI 1)] w20 _
            refine J_if_eqN (pc := 35) (tgt := 40) dX8_colourings_35 (by decide) (by decide) (fun h => absurd h (by decide)) (fun _ => ?_)
            refine J_iconst (pc := 38) (v := nI 0) dX8_colourings_38 (by decide) ?_
            exact J_iret (pc := 39) dX8_colourings_39 rfl (⟨rw, nx, b, bt, kn, en, nI (tW 1 0), ⟨h19_20, h20_20, h21_20, h22_20, hbb_20, hbl_20, hb3_20⟩, hF20, gr, gx, (by first | assumption | exact KX_i (by assumption) (by assumption) (by first | rfl | assumption)), (by first | exact Or.inl ⟨rfl, fun g => (by first | exact ne_isN (by assumption) g.1 | exact Int32.not_lt.mpr g.2.1.1 (by assumption) | exact absurd g.2.1.2 (by assumption) | exact absurd g.2.1.2 (Int32.not_le.mpr (by assumption)) | (obtain ⟨k, hk, ek⟩ := g.2.2; subst ek; first | exact absurd (by assumption) (nI_pos (n := k) (by omega)) | exact absurd ((nI_leI (a := k) (b := 1) (by omega) (by omega)).mpr (by omega)) (by assumption)))⟩ | (obtain ⟨kc, hkc2, ekc⟩ := isN_2c (by assumption) (by first | assumption | exact Int32.not_lt.mp (by assumption)); exact Or.inr ⟨rfl, _, _, kc, rfl, rfl, ekc, by omega, by omega, hkc2, ⟨(nI_leI (by omega) (by omega)).mpr (by omega), (nI_leI (by omega) (by omega)).mpr (by omega)⟩, (by subst ekc; first | exact Or.inl ⟨nI_0z hkc2 (by assumption), rfl⟩ | exact Or.inr ⟨fun q => absurd ((congrArg nI q).trans nI_0) (by assumption), rfl⟩)⟩))⟩)
