/-! contracts of the reference: rspec5 -/
set_option maxRecDepth 100000 in
set_option maxHeartbeats 40000000 in
theorem c_X8_isSuch {X : jX} (hs : X.1.stackTraces = false) {d : Nat} (hd : 1 ≤ d) {n : Nat} {mv rw nx : Nat → Nat} {b : Nat} {bt : List Int32} {kn en dn rf kk th : Int32} {w : List jC} (hR : RM n mv rw nx b bt kn en dn rf kk th w) (hn1 : 2 ≤ n) (hn2 : n ≤ 7) (gm : ∀ i, mv i < 7) (gr : ∀ i, rw i < 7) (gx : ∀ i, nx i < 7) (num : Nat) (it0 : Nat) (many : Nat) (ta : Nat) (tf : Nat → Nat) (hy0 : w[ta]? = some (aF 7 tf)) (hy1 : 23 ≤ ta) (hy2 : ta ≠ b) (hy3 : ∀ i, tf i < 7) (hy4 : num < 5056) (hy5 : it0 < 6) (hy6 : many ≤ n) (hy7 : PM n mv) {kc ks : Nat} : jMet X mX8_isSuch d kc ks [.ref 19, .int (nI num), .int (nI it0), .int (nI many), .ref ta] w (pI (fun v => (v = nI 0 ∧ sc n num (fun j => mv (it0 * 7 + j)) tf many = false) ∨ (v = nI 1 ∧ sc n num (fun j => mv (it0 * 7 + j)) tf many = true)) (fun w' => ∃ (rw' : Nat → Nat), RM n mv rw' nx b bt kn en dn rf kk th w' ∧ FR b b w w' ∧ (∀ i, rw' i < 7) ∧ ∀ p, p < n → rw' p = rwF n num p)) := by
  refine jMet_of hs (by decide +kernel) (Nat.le_of_ble_eq_true rfl) (L := [some (.ref 19), some (.int (nI num)), some (.int (nI it0)), some (.int (nI many)), some (.ref ta), none]) rfl ?_
  have hdm : 0 ≤ d - 1 := by omega
  have hdp : d - 1 + 1 ≤ d := by omega
  have hfc := fc_7 hn2
  have hfp := fc_pos n
  obtain ⟨h19, h20, h21, h22, hbb, hbl, hb3⟩ := hR
  have hF : FR b b w w := FR.rf
  refine J_aload_n (pc := 0) dX8_isSuch_0 rfl rfl rfl ?_
  refine J_iload_n (pc := 1) dX8_isSuch_1 rfl rfl ?_
  refine J_aload_n (pc := 2) dX8_isSuch_2 rfl rfl rfl ?_
  refine J_get (pc := 3) (k := 2) dX8_isSuch_3 kC9 (by decide) ff_X8_17 h19 rfl ?_
  refine J_callV0 (pc := 6) (M := mX8_isSuch) (as := [.int (nI num), .ref 21]) dX8_isSuch_6 fw_X8_rowOf fl_X8_78 fm_X8_rowOf fe_X8_rowOf h19 (by decide) rfl rfl rfl (c_X8_rowOf hs (d := d - 1) (Nat.le_trans (by decide) hdm) (w := w) (n := n) (mv := mv) (rw := rw) (nx := nx) (b := b) (bt := bt) (kn := kn) (en := en) (dn := dn) (rf := rf) (kk := kk) (th := th) ⟨h19, h20, h21, h22, hbb, hbl, hb3⟩ hn1 hn2 gm gr gx num (by first | assumption | omega) (kc := 0) (ks := 0)) hdp (st := []) (Nat.le_of_ble_eq_true rfl) rfl (kr_V fun w1 hw1 => ?_) kx_V
  obtain ⟨rw1, hR1, hFc1, hgrw1, hp1_0⟩ := hw1
  obtain ⟨h19_1, h20_1, h21_1, h22_1, hbb_1, hbl_1, hb3_1⟩ := hR1
  have hlta_1 := hFc1.at hy0 (by omega) (by omega)
  have hF1 := hF.tr hFc1
  have hprow := hp1_0
  refine J_iconst (pc := 9) (v := nI 0) dX8_isSuch_9 (by decide) ?_
  refine J_istore (pc := 10) dX8_isSuch_10 (by decide) rfl ?_
  show J X mX8_isSuch d kc ks 12 [some (.ref 19), some (.int (nI num)), some (.int (nI it0)), some (.int (nI many)), some (.ref ta), some (.int (nI 0))] [] w1 _
  have lp12_2 : ∀ (fuel : Nat) (c5 : Nat), (sc n num (fun j => mv (it0 * 7 + j)) tf c5 = true) → (c5 ≤ many) → (many - c5 < fuel) → J X mX8_isSuch d kc ks 12 [some (.ref 19), some (.int (nI num)), some (.int (nI it0)), some (.int (nI many)), some (.ref ta), some (.int (nI c5))] [] w1 (pI (fun v => (v = nI 0 ∧ sc n num (fun j => mv (it0 * 7 + j)) tf many = false) ∨ (v = nI 1 ∧ sc n num (fun j => mv (it0 * 7 + j)) tf many = true)) (fun w' => ∃ (rw' : Nat → Nat), RM n mv rw' nx b bt kn en dn rf kk th w' ∧ FR b b w w' ∧ (∀ i, rw' i < 7) ∧ ∀ p, p < n → rw' p = rwF n num p)) := by
    intro fuellp12_2
    induction fuellp12_2 with
    | zero => intros; omega
    | succ fuellp12_2 ihlp12_2 =>
      intro c5 hv12_0 hv12_1 hf3
      refine J_iload (pc := 12) dX8_isSuch_12 rfl ?_
      refine J_iload_n (pc := 14) dX8_isSuch_14 rfl rfl ?_
      refine J_icmp_geN (pc := 15) (tgt := 46) dX8_isSuch_15 (by decide) (by omega) (by omega) (fun ht4 => ?_) (fun hf5 => ?_)
      · refine J_iconst (pc := 46) (v := nI 1) dX8_isSuch_46 (by decide) ?_
        exact J_zret (pc := 47) dX8_isSuch_47 rfl (nar_b (by first | decide | omega)) ⟨Or.inr (⟨rfl, (by rw [← show c5 = many by omega]; exact hv12_0)⟩), ⟨rw1, ⟨h19_1, h20_1, h21_1, h22_1, hbb_1, hbl_1, hb3_1⟩, hF1, hgrw1, (by exact hprow)⟩⟩
      · refine J_aload_n (pc := 18) dX8_isSuch_18 rfl rfl rfl ?_
        refine J_get (pc := 19) (k := 2) dX8_isSuch_19 kC9 (by decide) ff_X8_17 h19_1 rfl ?_
        refine J_aload_n (pc := 22) dX8_isSuch_22 rfl rfl rfl ?_
        refine J_iload_n (pc := 23) dX8_isSuch_23 rfl rfl ?_
        refine J_iload (pc := 24) dX8_isSuch_24 rfl ?_
        refine J_callV0 (pc := 26) (M := mX8_isSuch) (as := [.int (nI it0), .int (nI c5)]) dX8_isSuch_26 fw_X8_at fl_X8_82 fm_X8_at fe_X8_at h19_1 (by decide) rfl rfl rfl (c_X8_at hs (d := d - 1) (Nat.le_trans (by decide) hdm) (w := w1) (n := n) (mv := mv) (rw := rw1) (nx := nx) (b := b) (bt := bt) (kn := kn) (en := en) (dn := dn) (rf := rf) (kk := kk) (th := th) ⟨h19_1, h20_1, h21_1, h22_1, hbb_1, hbl_1, hb3_1⟩ hn1 hn2 gm hgrw1 gx it0 c5 (by first | assumption | omega) (by first | assumption | omega) (kc := 0) (ks := 0)) hdp (st := [.ref 21]) (Nat.le_of_ble_eq_true rfl) rfl (kr_P fun v6 hv6 => ?_) kx_I
        subst hv6
        have hq7 := gm (it0 * 7 + c5)
        have hmc : mv (it0 * 7 + c5) < n := (hy7 it0 hy5).1 c5 (by omega)
        have hrc := hprow _ hmc
        refine J_ialdF (pc := 29) dX8_isSuch_29 h21_1 (by omega) (by decide) ?_
        have hq8 := hgrw1 (mv (it0 * 7 + c5))
        refine J_aload (pc := 30) dX8_isSuch_30 rfl rfl ?_
        refine J_iload (pc := 32) dX8_isSuch_32 rfl ?_
        refine J_ialdF (pc := 34) dX8_isSuch_34 hlta_1 (by omega) (by decide) ?_
        have htc := hy3 c5
        refine J_icmp_eqN (pc := 35) (tgt := 40) dX8_isSuch_35 (by decide) (by omega) (by omega) (fun ht9 => ?_) (fun hf10 => ?_)
        · refine J_iincN (pc := 40) (b := 1) dX8_isSuch_40 rfl (by decide) (by decide) rfl ?_
          show J X mX8_isSuch d kc ks 43 [some (.ref 19), some (.int (nI num)), some (.int (nI it0)), some (.int (nI many)), some (.ref ta), some (.int (nI (c5 + 1)))] [] w1 _
          refine J_goto (pc := 43) (tgt := 12) dX8_isSuch_43 (by decide) ?_
          exact J_sub (L' := [some (.ref 19), some (.int (nI num)), some (.int (nI it0)), some (.int (nI many)), some (.ref ta), some (.int (nI (c5 + 1)))]) ⟨rfl, ⟨rfl, ⟨rfl, ⟨rfl, ⟨rfl, ⟨rfl, trivial⟩⟩⟩⟩⟩⟩ (ihlp12_2 (c5 + 1) (by exact sc_s hv12_0 (hrc.symm.trans (by assumption))) (by first | assumption | omega) (by omega))
        · have hns : ¬ rwF n num (mv (it0 * 7 + c5)) = tf c5 := fun e => absurd (hrc.trans e) (by assumption)
          refine J_iconst (pc := 38) (v := nI 0) dX8_isSuch_38 (by decide) ?_
          exact J_zret (pc := 39) dX8_isSuch_39 rfl (nar_b (by first | decide | omega)) ⟨Or.inl ⟨rfl, (by exact sc_f (m := c5) hns many (by omega))⟩, ⟨rw1, ⟨h19_1, h20_1, h21_1, h22_1, hbb_1, hbl_1, hb3_1⟩, hF1, hgrw1, (by exact hprow)⟩⟩
  exact J_sub (L' := [some (.ref 19), some (.int (nI num)), some (.int (nI it0)), some (.int (nI many)), some (.ref ta), some (.int (nI 0))]) ⟨rfl, ⟨rfl, ⟨rfl, ⟨rfl, ⟨rfl, ⟨rfl, trivial⟩⟩⟩⟩⟩⟩ (lp12_2 _ 0 (by rfl) (by first | assumption | omega) (Nat.lt_succ_self _))
