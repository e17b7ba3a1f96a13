section
/-! contracts of the reference: rspec5 -/
set_option maxRecDepth 100000 in
set_option maxHeartbeats 40000000 in
theorem c_X8_isSuch {X : jX} (hs : X.1.stackTraces = false) {d : Nat} (hd : 1 ≤ d) {n : Nat} {mv rw nx : Nat → Nat} {b : Nat} {bt : List Int32} {kn en dn rf kk th : Int32} {w : List jC} (hR : RM n mv rw nx b bt kn en dn rf kk th w) (hn1 : 2 ≤ n) (hn2 : n ≤ 7) (gm : ∀ i, mv i < 7) (gr : ∀ i, rw i < 7) (gx : ∀ i, nx i < 7) (num : Nat) (it0 : Nat) (many : Nat) (ta : Nat) (tf : Nat → Nat) (hy0 : w[ta]? = some (aF 7 tf)) (hy1 : 23 ≤ ta) (hy2 : ta ≠ b) (hy3 : ∀ i, tf i < 7) (hy4 : num < 5056) (hy5 : it0 < 6) (hy6 : many ≤ n) (hy7 : PM n mv) {kc ks : Nat} : jMet X mX8_isSuch d kc ks [.ref 19, .int (nI num), .int (nI it0), .int (nI many), .ref ta] w (pI (fun v => (v = nI 0 ∧ sc n num (fun j => mv (it0 * 7 + j)) tf many = false) ∨ (v = nI 1 ∧ sc n num (fun j => mv (it0 * 7 + j)) tf many = true)) (fun w' => ∃ (rw' : Nat → Nat), RM n mv rw' nx b bt kn en dn rf kk th w' ∧ FR b b w w' ∧ (∀ i, rw' i < 7) ∧ ∀ p, p < n → rw' p = rwF n num p)) := by
  refine jMet_of hs (by decide +kernel) (Nat.le_of_ble_eq_true rfl) (L := [some (.ref 19), some (.int (nI num)), some (.int (nI it0)), some (.int (nI many)), some (.ref ta), none]) rfl ?_
  have hdm : 0 ≤ d - 1 := by omega
  have hdp : d - 1 + 1 ≤ d := by omega
  have hfc := fc_7 hn2
  have hfp := fc_pos n
  obtain ⟨h19, h20, h21, h22, hbb, hbl, hb3⟩ := hR
  have hF : FR b b w w := FR.rf
  refine J_aload_n (pc := 0) dX8_isSuch_0 rfl rfl rfl ?_
  refine J_iload_n (pc := 1) dX8_isSuch_1 rfl rfl ?_
  refine J_aload_n (pc := 2) dX8_isSuch_2 rfl rfl rfl ?_
  refine J_get (pc := 3) (k := 2) dX8_isSuch_3 kC9 (by decide) ff_X8_17 h19 rfl ?_
  refine J_callV0 (pc := 6) (M := mX8_isSuch) (as := [.int (nI num), .ref 21]) dX8_isSuch_6 fw_X8_rowOf fl_X8_78 fm_X8_rowOf fe_X8_rowOf h19 (by decide) rfl rfl rfl (c_X8_rowOf hs (d := d - 1) (Nat.le_trans (by decide) hdm) (w := w) (n := n) (mv := mv) (rw := rw) (nx := nx) (b := b) (bt := bt) (kn := kn) (en := en) (dn := dn) (rf := rf) (kk := kk) (th := th) ⟨h19, h20, h21, h22, hbb, hbl, hb3⟩ hn1 hn2 gm gr gx num (by first | assumption | omega) (kc := 0) (ks := 0)) hdp (st := []) (Nat.le_of_ble_eq_true rfl) rfl (kr_V fun w1 hw1 => ?_) kx_V
  obtain ⟨rw1, hR1, hFc1, hgrw1, hp1_0⟩ := hw1
  obtain ⟨h19_1, h20_1, h21_1, h22_1, hbb_1, hbl_1, hb3_1⟩ := hR1
  have hlta_1 := hFc1.at hy0 (by omega) (by omega)
  have hF1 := hF.tr hFc1
  have hprow := hp1_0
  refine J_iconst (pc := 9) (v := nI 0) dX8_isSuch_9 (by decide) ?_
  refine J_istore (pc := 10) dX8_isSuch_10 (by decide) rfl ?_
  show J X mX8_isSuch d kc ks 12 [some (.ref 19), some (.int (nI num)), some (.int (nI it0)), some (.int (nI many)), some (.ref ta), some (.int (nI 0))] [] w1 _
  have lp12_2 : ∀ (fuel : Nat) (c5 : Nat), (sc n num (fun j => mv (it0 * 7 + j)) tf c5 = true) → (c5 ≤ many) → (many - c5 < fuel) → J X mX8_isSuch d kc ks 12 [some (.ref 19), some (.int (nI num)), some (.int (nI it0)), some (.int (nI many)), some (.ref ta), some (.int (nI c5))] [] w1 (pI (fun v => (v = nI 0 ∧ sc n num (fun j => mv (it0 * 7 + j)) tf many = false) ∨ (v = nI 1 ∧ sc n num (fun j => mv (it0 * 7 + j)) tf many = true)) (fun w' => ∃ (rw' : Nat → Nat), RM n mv rw' nx b bt kn en dn rf kk th w' ∧ FR b b w w' ∧ (∀ i, rw' i < 7) ∧ ∀ p, p < n → rw' p = rwF n num p)) := by
    intro fuellp12_2
    induction fuellp12_2 with
    | zero => intros; omega
    | succ fuellp12_2 ihlp12_2 =>
      intro c5 hv12_0 hv12_1 hf3
      refine J_iload (pc := 12) dX8_isSuch_12 rfl ?_
      refine J_iload_n (pc := 14) dX8_isSuch_14 rfl rfl ?_
      refine J_icmp_geN (pc := 15) (tgt := 46) dX8_isSuch_15 (by decide) (by omega) (by omega) (fun ht4 => ?_) (fun hf5 => ?_)
      · refine J_iconst (pc := 46) (v := nI 1) dX8_isSuch_46 (by decide) ?_
        exact J_zret (pc := 47) dX8_isSuch_47 rfl (nar_b (by first | decide | omega)) ⟨Or.inr (⟨rfl, (by rw [← show c5 = many by omega]; exact hv12_0)⟩), ⟨rw1, ⟨h19_1, h20_1, h21_1, h22_1, hbb_1, hbl_1, hb3_1⟩, hF1, hgrw1, (by exact hprow)⟩⟩
      · refine J_aload_n (pc := 18) dX8_isSuch_18 rfl rfl rfl ?_
        refine J_get (pc := 19) (k := 2) dX8_isSuch_19 kC9 (by decide) ff_X8_17 h19_1 rfl ?_
        refine J_aload_n (pc := 22) dX8_isSuch_22 rfl rfl rfl ?_
        refine J_iload_n (pc := 23) dX8_isSuch_23 rfl rfl ?_
        refine J_iload (pc := 24) dX8_isSuch_24 rfl ?_
        refine J_callV0 (pc := 26) (M := mX8_isSuch) (as := [.int (nI it0), .int (nI c5)]) dX8_isSuch_26 fw_X8_at fl_X8_82 fm_X8_at fe_X8_at h19_1 (by decide) rfl rfl rfl (c_X8_at hs (d := d - 1) (Nat.le_trans (by decide) hdm) (w := w1) (n := n) (mv := mv) (rw := rw1) (nx := nx) (b := b) (bt := bt) (kn := kn) (en := en) (dn := dn) (rf := rf) (kk := kk) (th := th) ⟨h19_1, h20_1, h21_1, h22_1, hbb_1, hbl_1, hb3_1⟩ hn1 hn2 gm hgrw1 gx it0 c5 (by first | assumption | omega) (by first | assumption | omega) (kc := 0) (ks := 0)) hdp (st := [.ref 21]) (Nat.le_of_ble_eq_true rfl) rfl (kr_P fun v6 hv6 => ?_) kx_I
        subst hv6
        have hq7 := gm (it0 * 7 + c5)
        have hmc : mv (it0 * 7 + c5) < n := (hy7 it0 hy5).1 c5 (by omega)
        have hrc := hprow _ hmc
        refine J_ialdF (pc := 29) dX8_isSuch_29 h21_1 (by omega) (by decide) ?_
        have hq8 := hgrw1 (mv (it0 * 7 + c5))
        refine J_aload (pc := 30) dX8_isSuch_30 rfl rfl ?_
        refine J_iload (pc := 32) dX8_isSuch_32 rfl ?_
        refine J_ialdF (pc := 34) dX8_isSuch_34 hlta_1 (by omega) (by decide) ?_
        have htc := hy3 c5
        refine J_icmp_eqN (pc := 35) (tgt := 40) dX8_isSuch_35 (by decide) (by omega) (by omega) (fun ht9 => ?_) (fun hf10 => ?_)
        · refine J_iincN (pc := 40) (b := 1) dX8_isSuch_40 rfl (by decide) (by decide) rfl ?_
          show J X mX8_isSuch d kc ks 43 [some (.ref 19), some (.int (nI num)), some (.int (nI it0)), some (.int (nI many)), some (.ref ta), some (.int (nI (c5 + 1)))] [] w1 _
          refine J_goto (pc := 43) (tgt := 12) dX8_isSuch_43 (by decide) ?_
          exact J_sub (L' := [some (.ref 19), some (.int (nI num)), some (.int (nI it0)), some (.int (nI many)), some (.ref ta), some (.int (nI (c5 + 1)))]) ⟨rfl, ⟨rfl, ⟨rfl, ⟨rfl, ⟨rfl, ⟨rfl, trivial⟩⟩⟩⟩⟩⟩ (ihlp12_2 (c5 + 1) (by exact sc_s hv12_0 (hrc.symm.trans (by assumption))) (by first | assumption | omega) (by omega))
        · have hns : ¬ rwF n num (mv (it0 * 7 + c5)) = tf c5 := fun e => absurd (hrc.trans e) (by assumption)
          refine J_iconst (pc := 38) (v := nI 0) dX8_isSuch_38 (by decide) ?_
          exact J_zret (pc := 39) dX8_isSuch_39 rfl (nar_b (by first | decide | omega)) ⟨Or.inl ⟨rfl, (by exact sc_f (m := c5) hns many (by omega))⟩, ⟨rw1, ⟨h19_1, h20_1, h21_1, h22_1, hbb_1, hbl_1, hb3_1⟩, hF1, hgrw1, (by exact hprow)⟩⟩
  exact J_sub (L' := [some (.ref 19), some (.int (nI num)), some (.int (nI it0)), some (.int (nI many)), some (.ref ta), some (.int (nI 0))]) ⟨rfl, ⟨rfl, ⟨rfl, ⟨rfl, ⟨rfl, ⟨rfl, trivial⟩⟩⟩⟩⟩⟩ (lp12_2 _ 0 (by rfl) (by first | assumption | omega) (Nat.lt_succ_self _))
end
section
/-! the reference's leaves, exactly -/
set_option maxRecDepth 100000 in
set_option maxHeartbeats 4000000 in
theorem c_X8_signOf_at20x {X : jX} (hs : X.1.stackTraces = false) {d : Nat} (hd : 0 ≤ d) {n : Nat} {mv rw nx : Nat → Nat} {b : Nat} {bt : List Int32} {kn en dn rf kk th : Int32} {w : List jC} (hR : RM n mv rw nx b bt kn en dn rf kk th w) (hn1 : 2 ≤ n) (hn2 : n ≤ 7) (gm : ∀ i, mv i < 7) (gr : ∀ i, rw i < 7) (gx : ∀ i, nx i < 7) (fr : Nat) (hy0 : fr + n ≤ 42) {kc ks : Nat} : jMet X mX8_signOf d kc ks [.ref 19, .ref 20, .int (nI fr)] w (pI (fun v => v = sgv (iv mv fr n)) (fun w' => w' = w)) := by
  refine jMet_of hs (by decide +kernel) (Nat.le_of_ble_eq_true rfl) (L := [some (.ref 19), some (.ref 20), some (.int (nI fr)), none, none, none]) rfl ?_
  have hfc := fc_7 hn2
  have hfp := fc_pos n
  obtain ⟨h19, h20, h21, h22, hbb, hbl, hb3⟩ := hR
  have hF : FR b b w w := FR.rf
  refine J_iconst (pc := 0) (v := nI 1) dX8_signOf_0 (by decide) ?_
  refine J_istore_n (pc := 1) dX8_signOf_1 rfl (by decide) rfl ?_
  show J X mX8_signOf d kc ks 2 [some (.ref 19), some (.ref 20), some (.int (nI fr)), some (.int (nI 1)), none, none] [] w _
  refine J_iconst (pc := 2) (v := nI 0) dX8_signOf_2 (by decide) ?_
  refine J_istore (pc := 3) dX8_signOf_3 (by decide) rfl ?_
  show J X mX8_signOf d kc ks 5 [some (.ref 19), some (.ref 20), some (.int (nI fr)), some (.int (nI 1)), some (.int (nI 0)), none] [] w _
  have lp5_1 : ∀ (fuel : Nat) (y3 : Int32) (c4 : Nat), (y3 = sgv (iv mv fr c4)) → (c4 ≤ n) → (n - c4 < fuel) → J X mX8_signOf d kc ks 5 [some (.ref 19), some (.ref 20), some (.int (nI fr)), some (.int y3), some (.int (nI c4)), none] [] w (pI (fun v => v = sgv (iv mv fr n)) (fun w' => w' = w)) := by
    intro fuellp5_1
    induction fuellp5_1 with
    | zero => intros; omega
    | succ fuellp5_1 ihlp5_1 =>
      intro y3 c4 hv5_0 hv5_1 hf2
      refine J_iload (pc := 5) dX8_signOf_5 rfl ?_
      refine J_aload_n (pc := 7) dX8_signOf_7 rfl rfl rfl ?_
      refine J_get (pc := 8) (k := 0) dX8_signOf_8 kC9 (by decide) ff_X8_7 h19 rfl ?_
      refine J_icmp_geN (pc := 11) (tgt := 54) dX8_signOf_11 (by decide) (by omega) (by omega) (fun ht3 => ?_) (fun hf4 => ?_)
      · refine J_iload_n (pc := 54) dX8_signOf_54 rfl rfl ?_
        exact J_iret (pc := 55) dX8_signOf_55 rfl ⟨(by rw [hv5_0, show c4 = n by omega]), rfl⟩
      · refine J_iconst (pc := 14) (v := nI 0) dX8_signOf_14 (by decide) ?_
        refine J_istore (pc := 15) dX8_signOf_15 (by decide) rfl ?_
        show J X mX8_signOf d kc ks 17 [some (.ref 19), some (.ref 20), some (.int (nI fr)), some (.int y3), some (.int (nI c4)), some (.int (nI 0))] [] w _
        have lp17_5 : ∀ (fuel : Nat) (z3 : Int32) (c5 : Nat), (z3 = sgv (iv mv fr c4 + ivP mv fr c4 c5)) → (c5 ≤ c4) → (c4 - c5 < fuel) → J X mX8_signOf d kc ks 17 [some (.ref 19), some (.ref 20), some (.int (nI fr)), some (.int z3), some (.int (nI c4)), some (.int (nI c5))] [] w (pI (fun v => v = sgv (iv mv fr n)) (fun w' => w' = w)) := by
          intro fuellp17_5
          induction fuellp17_5 with
          | zero => intros; omega
          | succ fuellp17_5 ihlp17_5 =>
            intro z3 c5 hv17_0 hv17_1 hf6
            refine J_iload (pc := 17) dX8_signOf_17 rfl ?_
            refine J_iload (pc := 19) dX8_signOf_19 rfl ?_
            refine J_icmp_geN (pc := 21) (tgt := 48) dX8_signOf_21 (by decide) (by omega) (by omega) (fun ht7 => ?_) (fun hf8 => ?_)
            · refine J_iincN (pc := 48) (b := 1) dX8_signOf_48 rfl (by decide) (by decide) rfl ?_
              show J X mX8_signOf d kc ks 51 [some (.ref 19), some (.ref 20), some (.int (nI fr)), some (.int z3), some (.int (nI (c4 + 1))), some (.int (nI c5))] [] w _
              refine J_goto (pc := 51) (tgt := 5) dX8_signOf_51 (by decide) ?_
              exact J_sub (L' := [some (.ref 19), some (.ref 20), some (.int (nI fr)), some (.int z3), some (.int (nI (c4 + 1))), none]) ⟨rfl, ⟨rfl, ⟨rfl, ⟨rfl, ⟨rfl, trivial⟩⟩⟩⟩⟩ (ihlp5_1 z3 (c4 + 1) (by rw [hv17_0, show c5 = c4 by omega]; rfl) (by first | assumption | omega) (by omega))
            · refine J_aload_n (pc := 24) dX8_signOf_24 rfl rfl rfl ?_
              refine J_iload_n (pc := 25) dX8_signOf_25 rfl rfl ?_
              refine J_iload (pc := 26) dX8_signOf_26 rfl ?_
              refine J_iaddN (pc := 28) dX8_signOf_28 ?_
              refine J_ialdF (pc := 29) dX8_signOf_29 h20 (by omega) (by decide) ?_
              have hq9 := gm (fr + c5)
              refine J_aload_n (pc := 30) dX8_signOf_30 rfl rfl rfl ?_
              refine J_iload_n (pc := 31) dX8_signOf_31 rfl rfl ?_
              refine J_iload (pc := 32) dX8_signOf_32 rfl ?_
              refine J_iaddN (pc := 34) dX8_signOf_34 ?_
              refine J_ialdF (pc := 35) dX8_signOf_35 h20 (by omega) (by decide) ?_
              have hq10 := gm (fr + c4)
              refine J_icmp_leN (pc := 36) (tgt := 42) dX8_signOf_36 (by decide) (by omega) (by omega) (fun ht11 => ?_) (fun hf12 => ?_)
              · refine J_iincN (pc := 42) (b := 1) dX8_signOf_42 rfl (by decide) (by decide) rfl ?_
                show J X mX8_signOf d kc ks 45 [some (.ref 19), some (.ref 20), some (.int (nI fr)), some (.int z3), some (.int (nI c4)), some (.int (nI (c5 + 1)))] [] w _
                refine J_goto (pc := 45) (tgt := 17) dX8_signOf_45 (by decide) ?_
                exact J_sub (L' := [some (.ref 19), some (.ref 20), some (.int (nI fr)), some (.int z3), some (.int (nI c4)), some (.int (nI (c5 + 1)))]) ⟨rfl, ⟨rfl, ⟨rfl, ⟨rfl, ⟨rfl, ⟨rfl, trivial⟩⟩⟩⟩⟩⟩ (ihlp17_5 z3 (c5 + 1) (by first | exact iv_n hv17_0 (by assumption) | exact iv_s hv17_0 (by assumption)) (by first | assumption | omega) (by omega))
              · refine J_iload_n (pc := 39) dX8_signOf_39 rfl rfl ?_
                refine J_ineg (pc := 40) dX8_signOf_40 ?_
                refine J_istore_n (pc := 41) dX8_signOf_41 rfl (by decide) rfl ?_
                show J X mX8_signOf d kc ks 42 [some (.ref 19), some (.ref 20), some (.int (nI fr)), some (.int (-z3)), some (.int (nI c4)), some (.int (nI c5))] [] w _
                refine J_iincN (pc := 42) (b := 1) dX8_signOf_42 rfl (by decide) (by decide) rfl ?_
                show J X mX8_signOf d kc ks 45 [some (.ref 19), some (.ref 20), some (.int (nI fr)), some (.int (-z3)), some (.int (nI c4)), some (.int (nI (c5 + 1)))] [] w _
                refine J_goto (pc := 45) (tgt := 17) dX8_signOf_45 (by decide) ?_
                exact J_sub (L' := [some (.ref 19), some (.ref 20), some (.int (nI fr)), some (.int (-z3)), some (.int (nI c4)), some (.int (nI (c5 + 1)))]) ⟨rfl, ⟨rfl, ⟨rfl, ⟨rfl, ⟨rfl, ⟨rfl, trivial⟩⟩⟩⟩⟩⟩ (ihlp17_5 (-z3) (c5 + 1) (by first | exact iv_n hv17_0 (by assumption) | exact iv_s hv17_0 (by assumption)) (by first | assumption | omega) (by omega))
        exact J_sub (L' := [some (.ref 19), some (.ref 20), some (.int (nI fr)), some (.int y3), some (.int (nI c4)), some (.int (nI 0))]) ⟨rfl, ⟨rfl, ⟨rfl, ⟨rfl, ⟨rfl, ⟨rfl, trivial⟩⟩⟩⟩⟩⟩ (lp17_5 _ y3 0 (by exact hv5_0) (by first | assumption | omega) (Nat.lt_succ_self _))
  exact J_sub (L' := [some (.ref 19), some (.ref 20), some (.int (nI fr)), some (.int (nI 1)), some (.int (nI 0)), none]) ⟨rfl, ⟨rfl, ⟨rfl, ⟨rfl, ⟨rfl, trivial⟩⟩⟩⟩⟩ (lp5_1 _ (nI 1) 0 (by rfl) (by first | assumption | omega) (Nat.lt_succ_self _))
set_option maxRecDepth 100000 in
set_option maxHeartbeats 4000000 in
theorem c_X8_orderOf_at20x {X : jX} (hs : X.1.stackTraces = false) {d : Nat} (hd : 9 ≤ d) {n : Nat} {mv rw nx : Nat → Nat} {b : Nat} {bt : List Int32} {kn en dn rf kk th : Int32} {w : List jC} (hR : RM n mv rw nx b bt kn en dn rf kk th w) (hn1 : 2 ≤ n) (hn2 : n ≤ 7) (gm : ∀ i, mv i < 7) (gr : ∀ i, rw i < 7) (gx : ∀ i, nx i < 7) (fr : Nat) (hy0 : fr + n ≤ 42) (hy1 : Pn n (fun p => mv (fr + p))) {kc ks : Nat} : jMet X mX8_orderOf d kc ks [.ref 19, .ref 20, .int (nI fr)] w (pI (fun v => ∃ k : Nat, v = nI k ∧ k = olc (lF (fun p => mv (fr + p)) n) n ∧ 1 ≤ k ∧ k ≤ 420) (fun w' => w' = w)) := by
  refine jMet_of hs (by decide +kernel) (Nat.le_of_ble_eq_true rfl) (L := [some (.ref 19), some (.ref 20), some (.int (nI fr)), none, none, none]) rfl ?_
  have hdm : 8 ≤ d - 1 := by omega
  have hdp : d - 1 + 1 ≤ d := by omega
  have hfc := fc_7 hn2
  have hfp := fc_pos n
  obtain ⟨h19, h20, h21, h22, hbb, hbl, hb3⟩ := hR
  have hF : FR b b w w := FR.rf
  refine J_iconst (pc := 0) (v := nI 1) dX8_orderOf_0 (by decide) ?_
  refine J_istore_n (pc := 1) dX8_orderOf_1 rfl (by decide) rfl ?_
  show J X mX8_orderOf d kc ks 2 [some (.ref 19), some (.ref 20), some (.int (nI fr)), some (.int (nI 1)), none, none] [] w _
  refine J_iconst (pc := 2) (v := nI 0) dX8_orderOf_2 (by decide) ?_
  refine J_istore (pc := 3) dX8_orderOf_3 (by decide) rfl ?_
  show J X mX8_orderOf d kc ks 5 [some (.ref 19), some (.ref 20), some (.int (nI fr)), some (.int (nI 1)), some (.int (nI 0)), none] [] w _
  have lp5_1 : ∀ (fuel : Nat) (y3 : Nat) (c4 : Nat), (1 ≤ y3) → (y3 ∣ 420) → (c4 ≤ n) → (y3 = olc (lF (fun p => mv (fr + p)) n) c4) → (n - c4 < fuel) → J X mX8_orderOf d kc ks 5 [some (.ref 19), some (.ref 20), some (.int (nI fr)), some (.int (nI y3)), some (.int (nI c4)), none] [] w (pI (fun v => ∃ k : Nat, v = nI k ∧ k = olc (lF (fun p => mv (fr + p)) n) n ∧ 1 ≤ k ∧ k ≤ 420) (fun w' => w' = w)) := by
    intro fuellp5_1
    induction fuellp5_1 with
    | zero => intros; omega
    | succ fuellp5_1 ihlp5_1 =>
      intro y3 c4 hv5_0 hv5_1 hv5_2 hv5_3 hf2
      refine J_iload (pc := 5) dX8_orderOf_5 rfl ?_
      refine J_aload_n (pc := 7) dX8_orderOf_7 rfl rfl rfl ?_
      refine J_get (pc := 8) (k := 0) dX8_orderOf_8 kC9 (by decide) ff_X8_7 h19 rfl ?_
      refine J_icmp_geN (pc := 11) (tgt := 42) dX8_orderOf_11 (by decide) (by omega) (by omega) (fun ht3 => ?_) (fun hf4 => ?_)
      · refine J_iload_n (pc := 42) dX8_orderOf_42 rfl rfl ?_
        exact J_iret (pc := 43) dX8_orderOf_43 rfl ⟨⟨y3, rfl, by exact ⟨by rw [hv5_3, show c4 = n by omega], hv5_0, Nat.le_of_dvd (by decide) hv5_1⟩⟩, rfl⟩
      · refine J_aload_n (pc := 14) dX8_orderOf_14 rfl rfl rfl ?_
        refine J_aload_n (pc := 15) dX8_orderOf_15 rfl rfl rfl ?_
        refine J_iload_n (pc := 16) dX8_orderOf_16 rfl rfl ?_
        refine J_iload (pc := 17) dX8_orderOf_17 rfl ?_
        refine J_callV0 (pc := 19) (M := mX8_orderOf) (as := [.ref 20, .int (nI fr), .int (nI c4)]) dX8_orderOf_19 fw_X8_ringFrom fl_X8_61 fm_X8_ringFrom fe_X8_ringFrom h19 (by decide) rfl rfl rfl (c_X8_ringFrom_at20 hs (d := d - 1) (Nat.le_trans (by decide) hdm) (w := w) (n := n) (mv := mv) (rw := rw) (nx := nx) (b := b) (bt := bt) (kn := kn) (en := en) (dn := dn) (rf := rf) (kk := kk) (th := th) ⟨h19, h20, h21, h22, hbb, hbl, hb3⟩ hn1 hn2 gm gr gx fr c4 (by first | assumption | omega) (by first | assumption | omega) (by first | assumption | omega) (kc := 0) (ks := 0)) hdp (st := []) (Nat.le_of_ble_eq_true rfl) rfl (kr_P fun v5 hv5 => ?_) kx_I
        obtain ⟨k5, rfl, hk5⟩ := hv5
        have hq31 := ord_step (r := k5) hv5_0 hv5_1 (by omega) (by omega)
        have hq32 := Nat.gcd_le_left k5 hv5_0
        have hkk := lF_Pd (f := (fun p => mv (fr + p))) (n := n) hk5
        refine J_istore (pc := 22) dX8_orderOf_22 (by decide) rfl ?_
        show J X mX8_orderOf d kc ks 24 [some (.ref 19), some (.ref 20), some (.int (nI fr)), some (.int (nI y3)), some (.int (nI c4)), some (.int (nI k5))] [] w _
        have hq24 := Nat.le_of_dvd (by decide) hv5_1
        refine J_iload_n (pc := 24) dX8_orderOf_24 rfl rfl ?_
        refine J_iload_n (pc := 25) dX8_orderOf_25 rfl rfl ?_
        refine J_iload (pc := 26) dX8_orderOf_26 rfl ?_
        refine J_callS0 (pc := 28) (M := mX8_orderOf) (as := [.int (nI y3), .int (nI k5)]) dX8_orderOf_28 fw_X8_gcd fl_X8_57 fs_X8_gcd rfl (c_X8_gcd hs (d := d - 1) (Nat.le_trans (by decide) hdm) (w := w) y3 k5 (by first | assumption | omega) (by first | assumption | omega) (kc := 0) (ks := 0)) hdp (st := [.int (nI y3)]) (Nat.le_of_ble_eq_true rfl) rfl (kr_P fun v6 hv6 => ?_) kx_I
        subst hv6
        have hm7 := Nat.mod_lt y3 (show 0 < Nat.gcd y3 k5 by exact hq31.1)
        have hm8 := Nat.div_le_self y3 (Nat.gcd y3 k5)
        refine J_idivN (pc := 31) dX8_orderOf_31 (by omega) (by exact hq31.1) (by omega) ?_
        refine J_iload (pc := 32) dX8_orderOf_32 rfl ?_
        refine J_imulN (pc := 34) dX8_orderOf_34 ?_
        refine J_istore_n (pc := 35) dX8_orderOf_35 rfl (by decide) rfl ?_
        show J X mX8_orderOf d kc ks 36 [some (.ref 19), some (.ref 20), some (.int (nI fr)), some (.int (nI ((y3 / (Nat.gcd y3 k5)) * k5))), some (.int (nI c4)), some (.int (nI k5))] [] w _
        refine J_iincN (pc := 36) (b := 1) dX8_orderOf_36 rfl (by decide) (by decide) rfl ?_
        show J X mX8_orderOf d kc ks 39 [some (.ref 19), some (.ref 20), some (.int (nI fr)), some (.int (nI ((y3 / (Nat.gcd y3 k5)) * k5))), some (.int (nI (c4 + 1))), some (.int (nI k5))] [] w _
        refine J_goto (pc := 39) (tgt := 5) dX8_orderOf_39 (by decide) ?_
        exact J_sub (L' := [some (.ref 19), some (.ref 20), some (.int (nI fr)), some (.int (nI ((y3 / (Nat.gcd y3 k5)) * k5))), some (.int (nI (c4 + 1))), none]) ⟨rfl, ⟨rfl, ⟨rfl, ⟨rfl, ⟨rfl, trivial⟩⟩⟩⟩⟩ (ihlp5_1 ((y3 / (Nat.gcd y3 k5)) * k5) (c4 + 1) (by first | assumption | omega) (by exact hq31.2.2) (by first | assumption | omega) (by exact olc_s hv5_3 hkk) (by omega))
  exact J_sub (L' := [some (.ref 19), some (.ref 20), some (.int (nI fr)), some (.int (nI 1)), some (.int (nI 0)), none]) ⟨rfl, ⟨rfl, ⟨rfl, ⟨rfl, ⟨rfl, trivial⟩⟩⟩⟩⟩ (lp5_1 _ 1 0 (by first | assumption | omega) (by exact Nat.one_dvd _) (by first | assumption | omega) (by rfl) (Nat.lt_succ_self _))
set_option maxRecDepth 100000 in
set_option maxHeartbeats 4000000 in
theorem c_X8_signOf_at21x {X : jX} (hs : X.1.stackTraces = false) {d : Nat} (hd : 0 ≤ d) {n : Nat} {mv rw nx : Nat → Nat} {b : Nat} {bt : List Int32} {kn en dn rf kk th : Int32} {w : List jC} (hR : RM n mv rw nx b bt kn en dn rf kk th w) (hn1 : 2 ≤ n) (hn2 : n ≤ 7) (gm : ∀ i, mv i < 7) (gr : ∀ i, rw i < 7) (gx : ∀ i, nx i < 7) (fr : Nat) (hy0 : fr + n ≤ 7) {kc ks : Nat} : jMet X mX8_signOf d kc ks [.ref 19, .ref 21, .int (nI fr)] w (pI (fun v => v = sgv (iv rw fr n)) (fun w' => w' = w)) := by
  refine jMet_of hs (by decide +kernel) (Nat.le_of_ble_eq_true rfl) (L := [some (.ref 19), some (.ref 21), some (.int (nI fr)), none, none, none]) rfl ?_
  have hfc := fc_7 hn2
  have hfp := fc_pos n
  obtain ⟨h19, h20, h21, h22, hbb, hbl, hb3⟩ := hR
  have hF : FR b b w w := FR.rf
  refine J_iconst (pc := 0) (v := nI 1) dX8_signOf_0 (by decide) ?_
  refine J_istore_n (pc := 1) dX8_signOf_1 rfl (by decide) rfl ?_
  show J X mX8_signOf d kc ks 2 [some (.ref 19), some (.ref 21), some (.int (nI fr)), some (.int (nI 1)), none, none] [] w _
  refine J_iconst (pc := 2) (v := nI 0) dX8_signOf_2 (by decide) ?_
  refine J_istore (pc := 3) dX8_signOf_3 (by decide) rfl ?_
  show J X mX8_signOf d kc ks 5 [some (.ref 19), some (.ref 21), some (.int (nI fr)), some (.int (nI 1)), some (.int (nI 0)), none] [] w _
  have lp5_1 : ∀ (fuel : Nat) (y3 : Int32) (c4 : Nat), (y3 = sgv (iv rw fr c4)) → (c4 ≤ n) → (n - c4 < fuel) → J X mX8_signOf d kc ks 5 [some (.ref 19), some (.ref 21), some (.int (nI fr)), some (.int y3), some (.int (nI c4)), none] [] w (pI (fun v => v = sgv (iv rw fr n)) (fun w' => w' = w)) := by
    intro fuellp5_1
    induction fuellp5_1 with
    | zero => intros; omega
    | succ fuellp5_1 ihlp5_1 =>
      intro y3 c4 hv5_0 hv5_1 hf2
      refine J_iload (pc := 5) dX8_signOf_5 rfl ?_
      refine J_aload_n (pc := 7) dX8_signOf_7 rfl rfl rfl ?_
      refine J_get (pc := 8) (k := 0) dX8_signOf_8 kC9 (by decide) ff_X8_7 h19 rfl ?_
      refine J_icmp_geN (pc := 11) (tgt := 54) dX8_signOf_11 (by decide) (by omega) (by omega) (fun ht3 => ?_) (fun hf4 => ?_)
      · refine J_iload_n (pc := 54) dX8_signOf_54 rfl rfl ?_
        exact J_iret (pc := 55) dX8_signOf_55 rfl ⟨(by rw [hv5_0, show c4 = n by omega]), rfl⟩
      · refine J_iconst (pc := 14) (v := nI 0) dX8_signOf_14 (by decide) ?_
        refine J_istore (pc := 15) dX8_signOf_15 (by decide) rfl ?_
        show J X mX8_signOf d kc ks 17 [some (.ref 19), some (.ref 21), some (.int (nI fr)), some (.int y3), some (.int (nI c4)), some (.int (nI 0))] [] w _
        have lp17_5 : ∀ (fuel : Nat) (z3 : Int32) (c5 : Nat), (z3 = sgv (iv rw fr c4 + ivP rw fr c4 c5)) → (c5 ≤ c4) → (c4 - c5 < fuel) → J X mX8_signOf d kc ks 17 [some (.ref 19), some (.ref 21), some (.int (nI fr)), some (.int z3), some (.int (nI c4)), some (.int (nI c5))] [] w (pI (fun v => v = sgv (iv rw fr n)) (fun w' => w' = w)) := by
          intro fuellp17_5
          induction fuellp17_5 with
          | zero => intros; omega
          | succ fuellp17_5 ihlp17_5 =>
            intro z3 c5 hv17_0 hv17_1 hf6
            refine J_iload (pc := 17) dX8_signOf_17 rfl ?_
            refine J_iload (pc := 19) dX8_signOf_19 rfl ?_
            refine J_icmp_geN (pc := 21) (tgt := 48) dX8_signOf_21 (by decide) (by omega) (by omega) (fun ht7 => ?_) (fun hf8 => ?_)
            · refine J_iincN (pc := 48) (b := 1) dX8_signOf_48 rfl (by decide) (by decide) rfl ?_
              show J X mX8_signOf d kc ks 51 [some (.ref 19), some (.ref 21), some (.int (nI fr)), some (.int z3), some (.int (nI (c4 + 1))), some (.int (nI c5))] [] w _
              refine J_goto (pc := 51) (tgt := 5) dX8_signOf_51 (by decide) ?_
              exact J_sub (L' := [some (.ref 19), some (.ref 21), some (.int (nI fr)), some (.int z3), some (.int (nI (c4 + 1))), none]) ⟨rfl, ⟨rfl, ⟨rfl, ⟨rfl, ⟨rfl, trivial⟩⟩⟩⟩⟩ (ihlp5_1 z3 (c4 + 1) (by rw [hv17_0, show c5 = c4 by omega]; rfl) (by first | assumption | omega) (by omega))
            · refine J_aload_n (pc := 24) dX8_signOf_24 rfl rfl rfl ?_
              refine J_iload_n (pc := 25) dX8_signOf_25 rfl rfl ?_
              refine J_iload (pc := 26) dX8_signOf_26 rfl ?_
              refine J_iaddN (pc := 28) dX8_signOf_28 ?_
              refine J_ialdF (pc := 29) dX8_signOf_29 h21 (by omega) (by decide) ?_
              have hq9 := gr (fr + c5)
              refine J_aload_n (pc := 30) dX8_signOf_30 rfl rfl rfl ?_
              refine J_iload_n (pc := 31) dX8_signOf_31 rfl rfl ?_
              refine J_iload (pc := 32) dX8_signOf_32 rfl ?_
              refine J_iaddN (pc := 34) dX8_signOf_34 ?_
              refine J_ialdF (pc := 35) dX8_signOf_35 h21 (by omega) (by decide) ?_
              have hq10 := gr (fr + c4)
              refine J_icmp_leN (pc := 36) (tgt := 42) dX8_signOf_36 (by decide) (by omega) (by omega) (fun ht11 => ?_) (fun hf12 => ?_)
              · refine J_iincN (pc := 42) (b := 1) dX8_signOf_42 rfl (by decide) (by decide) rfl ?_
                show J X mX8_signOf d kc ks 45 [some (.ref 19), some (.ref 21), some (.int (nI fr)), some (.int z3), some (.int (nI c4)), some (.int (nI (c5 + 1)))] [] w _
                refine J_goto (pc := 45) (tgt := 17) dX8_signOf_45 (by decide) ?_
                exact J_sub (L' := [some (.ref 19), some (.ref 21), some (.int (nI fr)), some (.int z3), some (.int (nI c4)), some (.int (nI (c5 + 1)))]) ⟨rfl, ⟨rfl, ⟨rfl, ⟨rfl, ⟨rfl, ⟨rfl, trivial⟩⟩⟩⟩⟩⟩ (ihlp17_5 z3 (c5 + 1) (by first | exact iv_n hv17_0 (by assumption) | exact iv_s hv17_0 (by assumption)) (by first | assumption | omega) (by omega))
              · refine J_iload_n (pc := 39) dX8_signOf_39 rfl rfl ?_
                refine J_ineg (pc := 40) dX8_signOf_40 ?_
                refine J_istore_n (pc := 41) dX8_signOf_41 rfl (by decide) rfl ?_
                show J X mX8_signOf d kc ks 42 [some (.ref 19), some (.ref 21), some (.int (nI fr)), some (.int (-z3)), some (.int (nI c4)), some (.int (nI c5))] [] w _
                refine J_iincN (pc := 42) (b := 1) dX8_signOf_42 rfl (by decide) (by decide) rfl ?_
                show J X mX8_signOf d kc ks 45 [some (.ref 19), some (.ref 21), some (.int (nI fr)), some (.int (-z3)), some (.int (nI c4)), some (.int (nI (c5 + 1)))] [] w _
                refine J_goto (pc := 45) (tgt := 17) dX8_signOf_45 (by decide) ?_
                exact J_sub (L' := [some (.ref 19), some (.ref 21), some (.int (nI fr)), some (.int (-z3)), some (.int (nI c4)), some (.int (nI (c5 + 1)))]) ⟨rfl, ⟨rfl, ⟨rfl, ⟨rfl, ⟨rfl, ⟨rfl, trivial⟩⟩⟩⟩⟩⟩ (ihlp17_5 (-z3) (c5 + 1) (by first | exact iv_n hv17_0 (by assumption) | exact iv_s hv17_0 (by assumption)) (by first | assumption | omega) (by omega))
        exact J_sub (L' := [some (.ref 19), some (.ref 21), some (.int (nI fr)), some (.int y3), some (.int (nI c4)), some (.int (nI 0))]) ⟨rfl, ⟨rfl, ⟨rfl, ⟨rfl, ⟨rfl, ⟨rfl, trivial⟩⟩⟩⟩⟩⟩ (lp17_5 _ y3 0 (by exact hv5_0) (by first | assumption | omega) (Nat.lt_succ_self _))
  exact J_sub (L' := [some (.ref 19), some (.ref 21), some (.int (nI fr)), some (.int (nI 1)), some (.int (nI 0)), none]) ⟨rfl, ⟨rfl, ⟨rfl, ⟨rfl, ⟨rfl, trivial⟩⟩⟩⟩⟩ (lp5_1 _ (nI 1) 0 (by rfl) (by first | assumption | omega) (Nat.lt_succ_self _))
set_option maxRecDepth 100000 in
set_option maxHeartbeats 4000000 in
theorem c_X8_orderOf_at21x {X : jX} (hs : X.1.stackTraces = false) {d : Nat} (hd : 9 ≤ d) {n : Nat} {mv rw nx : Nat → Nat} {b : Nat} {bt : List Int32} {kn en dn rf kk th : Int32} {w : List jC} (hR : RM n mv rw nx b bt kn en dn rf kk th w) (hn1 : 2 ≤ n) (hn2 : n ≤ 7) (gm : ∀ i, mv i < 7) (gr : ∀ i, rw i < 7) (gx : ∀ i, nx i < 7) (fr : Nat) (hy0 : fr + n ≤ 7) (hy1 : Pn n (fun p => rw (fr + p))) {kc ks : Nat} : jMet X mX8_orderOf d kc ks [.ref 19, .ref 21, .int (nI fr)] w (pI (fun v => ∃ k : Nat, v = nI k ∧ k = olc (lF (fun p => rw (fr + p)) n) n ∧ 1 ≤ k ∧ k ≤ 420) (fun w' => w' = w)) := by
  refine jMet_of hs (by decide +kernel) (Nat.le_of_ble_eq_true rfl) (L := [some (.ref 19), some (.ref 21), some (.int (nI fr)), none, none, none]) rfl ?_
  have hdm : 8 ≤ d - 1 := by omega
  have hdp : d - 1 + 1 ≤ d := by omega
  have hfc := fc_7 hn2
  have hfp := fc_pos n
  obtain ⟨h19, h20, h21, h22, hbb, hbl, hb3⟩ := hR
  have hF : FR b b w w := FR.rf
  refine J_iconst (pc := 0) (v := nI 1) dX8_orderOf_0 (by decide) ?_
  refine J_istore_n (pc := 1) dX8_orderOf_1 rfl (by decide) rfl ?_
  show J X mX8_orderOf d kc ks 2 [some (.ref 19), some (.ref 21), some (.int (nI fr)), some (.int (nI 1)), none, none] [] w _
  refine J_iconst (pc := 2) (v := nI 0) dX8_orderOf_2 (by decide) ?_
  refine J_istore (pc := 3) dX8_orderOf_3 (by decide) rfl ?_
  show J X mX8_orderOf d kc ks 5 [some (.ref 19), some (.ref 21), some (.int (nI fr)), some (.int (nI 1)), some (.int (nI 0)), none] [] w _
  have lp5_1 : ∀ (fuel : Nat) (y3 : Nat) (c4 : Nat), (1 ≤ y3) → (y3 ∣ 420) → (c4 ≤ n) → (y3 = olc (lF (fun p => rw (fr + p)) n) c4) → (n - c4 < fuel) → J X mX8_orderOf d kc ks 5 [some (.ref 19), some (.ref 21), some (.int (nI fr)), some (.int (nI y3)), some (.int (nI c4)), none] [] w (pI (fun v => ∃ k : Nat, v = nI k ∧ k = olc (lF (fun p => rw (fr + p)) n) n ∧ 1 ≤ k ∧ k ≤ 420) (fun w' => w' = w)) := by
    intro fuellp5_1
    induction fuellp5_1 with
    | zero => intros; omega
    | succ fuellp5_1 ihlp5_1 =>
      intro y3 c4 hv5_0 hv5_1 hv5_2 hv5_3 hf2
      refine J_iload (pc := 5) dX8_orderOf_5 rfl ?_
      refine J_aload_n (pc := 7) dX8_orderOf_7 rfl rfl rfl ?_
      refine J_get (pc := 8) (k := 0) dX8_orderOf_8 kC9 (by decide) ff_X8_7 h19 rfl ?_
      refine J_icmp_geN (pc := 11) (tgt := 42) dX8_orderOf_11 (by decide) (by omega) (by omega) (fun ht3 => ?_) (fun hf4 => ?_)
      · refine J_iload_n (pc := 42) dX8_orderOf_42 rfl rfl ?_
        exact J_iret (pc := 43) dX8_orderOf_43 rfl ⟨⟨y3, rfl, by exact ⟨by rw [hv5_3, show c4 = n by omega], hv5_0, Nat.le_of_dvd (by decide) hv5_1⟩⟩, rfl⟩
      · refine J_aload_n (pc := 14) dX8_orderOf_14 rfl rfl rfl ?_
        refine J_aload_n (pc := 15) dX8_orderOf_15 rfl rfl rfl ?_
        refine J_iload_n (pc := 16) dX8_orderOf_16 rfl rfl ?_
        refine J_iload (pc := 17) dX8_orderOf_17 rfl ?_
        refine J_callV0 (pc := 19) (M := mX8_orderOf) (as := [.ref 21, .int (nI fr), .int (nI c4)]) dX8_orderOf_19 fw_X8_ringFrom fl_X8_61 fm_X8_ringFrom fe_X8_ringFrom h19 (by decide) rfl rfl rfl (c_X8_ringFrom_at21 hs (d := d - 1) (Nat.le_trans (by decide) hdm) (w := w) (n := n) (mv := mv) (rw := rw) (nx := nx) (b := b) (bt := bt) (kn := kn) (en := en) (dn := dn) (rf := rf) (kk := kk) (th := th) ⟨h19, h20, h21, h22, hbb, hbl, hb3⟩ hn1 hn2 gm gr gx fr c4 (by first | assumption | omega) (by first | assumption | omega) (by first | assumption | omega) (kc := 0) (ks := 0)) hdp (st := []) (Nat.le_of_ble_eq_true rfl) rfl (kr_P fun v5 hv5 => ?_) kx_I
        obtain ⟨k5, rfl, hk5⟩ := hv5
        have hq31 := ord_step (r := k5) hv5_0 hv5_1 (by omega) (by omega)
        have hq32 := Nat.gcd_le_left k5 hv5_0
        have hkk := lF_Pd (f := (fun p => rw (fr + p))) (n := n) hk5
        refine J_istore (pc := 22) dX8_orderOf_22 (by decide) rfl ?_
        show J X mX8_orderOf d kc ks 24 [some (.ref 19), some (.ref 21), some (.int (nI fr)), some (.int (nI y3)), some (.int (nI c4)), some (.int (nI k5))] [] w _
        have hq24 := Nat.le_of_dvd (by decide) hv5_1
        refine J_iload_n (pc := 24) dX8_orderOf_24 rfl rfl ?_
        refine J_iload_n (pc := 25) dX8_orderOf_25 rfl rfl ?_
        refine J_iload (pc := 26) dX8_orderOf_26 rfl ?_
        refine J_callS0 (pc := 28) (M := mX8_orderOf) (as := [.int (nI y3), .int (nI k5)]) dX8_orderOf_28 fw_X8_gcd fl_X8_57 fs_X8_gcd rfl (c_X8_gcd hs (d := d - 1) (Nat.le_trans (by decide) hdm) (w := w) y3 k5 (by first | assumption | omega) (by first | assumption | omega) (kc := 0) (ks := 0)) hdp (st := [.int (nI y3)]) (Nat.le_of_ble_eq_true rfl) rfl (kr_P fun v6 hv6 => ?_) kx_I
        subst hv6
        have hm7 := Nat.mod_lt y3 (show 0 < Nat.gcd y3 k5 by exact hq31.1)
        have hm8 := Nat.div_le_self y3 (Nat.gcd y3 k5)
        refine J_idivN (pc := 31) dX8_orderOf_31 (by omega) (by exact hq31.1) (by omega) ?_
        refine J_iload (pc := 32) dX8_orderOf_32 rfl ?_
        refine J_imulN (pc := 34) dX8_orderOf_34 ?_
        refine J_istore_n (pc := 35) dX8_orderOf_35 rfl (by decide) rfl ?_
        show J X mX8_orderOf d kc ks 36 [some (.ref 19), some (.ref 21), some (.int (nI fr)), some (.int (nI ((y3 / (Nat.gcd y3 k5)) * k5))), some (.int (nI c4)), some (.int (nI k5))] [] w _
        refine J_iincN (pc := 36) (b := 1) dX8_orderOf_36 rfl (by decide) (by decide) rfl ?_
        show J X mX8_orderOf d kc ks 39 [some (.ref 19), some (.ref 21), some (.int (nI fr)), some (.int (nI ((y3 / (Nat.gcd y3 k5)) * k5))), some (.int (nI (c4 + 1))), some (.int (nI k5))] [] w _
        refine J_goto (pc := 39) (tgt := 5) dX8_orderOf_39 (by decide) ?_
        exact J_sub (L' := [some (.ref 19), some (.ref 21), some (.int (nI fr)), some (.int (nI ((y3 / (Nat.gcd y3 k5)) * k5))), some (.int (nI (c4 + 1))), none]) ⟨rfl, ⟨rfl, ⟨rfl, ⟨rfl, ⟨rfl, trivial⟩⟩⟩⟩⟩ (ihlp5_1 ((y3 / (Nat.gcd y3 k5)) * k5) (c4 + 1) (by first | assumption | omega) (by exact hq31.2.2) (by first | assumption | omega) (by exact olc_s hv5_3 hkk) (by omega))
  exact J_sub (L' := [some (.ref 19), some (.ref 21), some (.int (nI fr)), some (.int (nI 1)), some (.int (nI 0)), none]) ⟨rfl, ⟨rfl, ⟨rfl, ⟨rfl, ⟨rfl, trivial⟩⟩⟩⟩⟩ (lp5_1 _ 1 0 (by first | assumption | omega) (by exact Nat.one_dvd _) (by first | assumption | omega) (by rfl) (Nat.lt_succ_self _))
set_option maxRecDepth 100000 in
set_option maxHeartbeats 4000000 in
theorem c_X8_longOnes_atx {X : jX} (hs : X.1.stackTraces = false) {d : Nat} (hd : 1 ≤ d) {n : Nat} {mv rw nx : Nat → Nat} {b : Nat} {bt : List Int32} {kn en dn rf kk th : Int32} {w : List jC} (hR : RM n mv rw nx b bt kn en dn rf kk th w) (hn1 : 2 ≤ n) (hn2 : n ≤ 7) (gm : ∀ i, mv i < 7) (gr : ∀ i, rw i < 7) (gx : ∀ i, nx i < 7) (a : Nat) (len : Nat) (hy0 : a < 6) (hy1 : 1 ≤ len) (hy2 : len ≤ 7) (hy3 : PM n mv) {kc ks : Nat} : jMet X mX8_longOnes d kc ks [.ref 19, .int (nI a), .int (nI len)] w (pI (fun v => v = nI (lo (fun p => mv (a * 7 + p)) n len n / len)) (fun w' => w' = w)) := by
  refine jMet_of hs (by decide +kernel) (Nat.le_of_ble_eq_true rfl) (L := [some (.ref 19), some (.int (nI a)), some (.int (nI len)), none, none]) rfl ?_
  have hdm : 0 ≤ d - 1 := by omega
  have hdp : d - 1 + 1 ≤ d := by omega
  have hfc := fc_7 hn2
  have hfp := fc_pos n
  obtain ⟨h19, h20, h21, h22, hbb, hbl, hb3⟩ := hR
  have hF : FR b b w w := FR.rf
  refine J_iconst (pc := 0) (v := nI 0) dX8_longOnes_0 (by decide) ?_
  refine J_istore_n (pc := 1) dX8_longOnes_1 rfl (by decide) rfl ?_
  show J X mX8_longOnes d kc ks 2 [some (.ref 19), some (.int (nI a)), some (.int (nI len)), some (.int (nI 0)), none] [] w _
  refine J_iconst (pc := 2) (v := nI 0) dX8_longOnes_2 (by decide) ?_
  refine J_istore (pc := 3) dX8_longOnes_3 (by decide) rfl ?_
  show J X mX8_longOnes d kc ks 5 [some (.ref 19), some (.int (nI a)), some (.int (nI len)), some (.int (nI 0)), some (.int (nI 0))] [] w _
  have lp5_1 : ∀ (fuel : Nat) (y3 : Nat) (c4 : Nat), (y3 = lo (fun p => mv (a * 7 + p)) n len c4) → (y3 ≤ c4) → (c4 ≤ n) → (n - c4 < fuel) → J X mX8_longOnes d kc ks 5 [some (.ref 19), some (.int (nI a)), some (.int (nI len)), some (.int (nI y3)), some (.int (nI c4))] [] w (pI (fun v => v = nI (lo (fun p => mv (a * 7 + p)) n len n / len)) (fun w' => w' = w)) := by
    intro fuellp5_1
    induction fuellp5_1 with
    | zero => intros; omega
    | succ fuellp5_1 ihlp5_1 =>
      intro y3 c4 hv5_0 hv5_1 hv5_2 hf2
      refine J_iload (pc := 5) dX8_longOnes_5 rfl ?_
      refine J_aload_n (pc := 7) dX8_longOnes_7 rfl rfl rfl ?_
      refine J_get (pc := 8) (k := 0) dX8_longOnes_8 kC9 (by decide) ff_X8_7 h19 rfl ?_
      refine J_icmp_geN (pc := 11) (tgt := 46) dX8_longOnes_11 (by decide) (by omega) (by omega) (fun ht3 => ?_) (fun hf4 => ?_)
      · refine J_iload_n (pc := 46) dX8_longOnes_46 rfl rfl ?_
        refine J_iload_n (pc := 47) dX8_longOnes_47 rfl rfl ?_
        have hm5 := Nat.mod_lt y3 (show 0 < len by omega)
        have hm6 := Nat.div_le_self y3 len
        refine J_idivN (pc := 48) dX8_longOnes_48 (by omega) (by omega) (by omega) ?_
        exact J_iret (pc := 49) dX8_longOnes_49 rfl ⟨(congrArg nI (by rw [hv5_0, show c4 = n by omega])), rfl⟩
      · refine J_iload_n (pc := 14) dX8_longOnes_14 rfl rfl ?_
        refine J_aload_n (pc := 15) dX8_longOnes_15 rfl rfl rfl ?_
        refine J_aload_n (pc := 16) dX8_longOnes_16 rfl rfl rfl ?_
        refine J_get (pc := 17) (k := 1) dX8_longOnes_17 kC9 (by decide) ff_X8_13 h19 rfl ?_
        refine J_iload_n (pc := 20) dX8_longOnes_20 rfl rfl ?_
        refine J_bipush (pc := 21) (v := nI 7) dX8_longOnes_21 (by decide) ?_
        refine J_imulN (pc := 23) dX8_longOnes_23 ?_
        refine J_iload (pc := 24) dX8_longOnes_24 rfl ?_
        refine J_callV0 (pc := 26) (M := mX8_longOnes) (as := [.ref 20, .int (nI (a * 7)), .int (nI c4)]) dX8_longOnes_26 fw_X8_ringFrom fl_X8_61 fm_X8_ringFrom fe_X8_ringFrom h19 (by decide) rfl rfl rfl (c_X8_ringFrom_at20 hs (d := d - 1) (Nat.le_trans (by decide) hdm) (w := w) (n := n) (mv := mv) (rw := rw) (nx := nx) (b := b) (bt := bt) (kn := kn) (en := en) (dn := dn) (rf := rf) (kk := kk) (th := th) ⟨h19, h20, h21, h22, hbb, hbl, hb3⟩ hn1 hn2 gm gr gx (a * 7) c4 (by first | assumption | omega) (by exact hy3 a hy0) (by first | assumption | omega) (kc := 0) (ks := 0)) hdp (st := [.int (nI y3)]) (Nat.le_of_ble_eq_true rfl) rfl (kr_P fun v7 hv7 => ?_) kx_I
        obtain ⟨k7, rfl, hk7⟩ := hv7
        have hkk := lF_Pd (f := (fun p => mv (a * 7 + p))) (n := n) hk7
        refine J_iload_n (pc := 29) dX8_longOnes_29 rfl rfl ?_
        refine J_icmp_neN (pc := 30) (tgt := 37) dX8_longOnes_30 (by decide) (by omega) (by omega) (fun ht8 => ?_) (fun hf9 => ?_)
        · refine J_iconst (pc := 37) (v := nI 0) dX8_longOnes_37 (by decide) ?_
          refine J_iaddN (pc := 38) dX8_longOnes_38 ?_
          refine J_istore_n (pc := 39) dX8_longOnes_39 rfl (by decide) rfl ?_
          show J X mX8_longOnes d kc ks 40 [some (.ref 19), some (.int (nI a)), some (.int (nI len)), some (.int (nI (y3 + 0))), some (.int (nI c4))] [] w _
          refine J_iincN (pc := 40) (b := 1) dX8_longOnes_40 rfl (by decide) (by decide) rfl ?_
          show J X mX8_longOnes d kc ks 43 [some (.ref 19), some (.int (nI a)), some (.int (nI len)), some (.int (nI (y3 + 0))), some (.int (nI (c4 + 1)))] [] w _
          refine J_goto (pc := 43) (tgt := 5) dX8_longOnes_43 (by decide) ?_
          exact J_sub (L' := [some (.ref 19), some (.int (nI a)), some (.int (nI len)), some (.int (nI (y3 + 0))), some (.int (nI (c4 + 1)))]) ⟨rfl, ⟨rfl, ⟨rfl, ⟨rfl, ⟨rfl, trivial⟩⟩⟩⟩⟩ (ihlp5_1 (y3 + 0) (c4 + 1) (by first | (rw [hv5_0]; exact lo_1 hkk (by assumption)) | (rw [hv5_0]; exact lo_0 hkk (by assumption))) (by first | assumption | omega) (by first | assumption | omega) (by omega))
        · refine J_iconst (pc := 33) (v := nI 1) dX8_longOnes_33 (by decide) ?_
          refine J_goto (pc := 34) (tgt := 38) dX8_longOnes_34 (by decide) ?_
          refine J_iaddN (pc := 38) dX8_longOnes_38 ?_
          refine J_istore_n (pc := 39) dX8_longOnes_39 rfl (by decide) rfl ?_
          show J X mX8_longOnes d kc ks 40 [some (.ref 19), some (.int (nI a)), some (.int (nI len)), some (.int (nI (y3 + 1))), some (.int (nI c4))] [] w _
          refine J_iincN (pc := 40) (b := 1) dX8_longOnes_40 rfl (by decide) (by decide) rfl ?_
          show J X mX8_longOnes d kc ks 43 [some (.ref 19), some (.int (nI a)), some (.int (nI len)), some (.int (nI (y3 + 1))), some (.int (nI (c4 + 1)))] [] w _
          refine J_goto (pc := 43) (tgt := 5) dX8_longOnes_43 (by decide) ?_
          exact J_sub (L' := [some (.ref 19), some (.int (nI a)), some (.int (nI len)), some (.int (nI (y3 + 1))), some (.int (nI (c4 + 1)))]) ⟨rfl, ⟨rfl, ⟨rfl, ⟨rfl, ⟨rfl, trivial⟩⟩⟩⟩⟩ (ihlp5_1 (y3 + 1) (c4 + 1) (by first | (rw [hv5_0]; exact lo_1 hkk (by assumption)) | (rw [hv5_0]; exact lo_0 hkk (by assumption))) (by first | assumption | omega) (by first | assumption | omega) (by omega))
  exact J_sub (L' := [some (.ref 19), some (.int (nI a)), some (.int (nI len)), some (.int (nI 0)), some (.int (nI 0))]) ⟨rfl, ⟨rfl, ⟨rfl, ⟨rfl, ⟨rfl, trivial⟩⟩⟩⟩⟩ (lp5_1 _ 0 0 (by rfl) (by first | assumption | omega) (by first | assumption | omega) (Nat.lt_succ_self _))
set_option maxRecDepth 100000 in
set_option maxHeartbeats 4000000 in
theorem c_X8_staysNow_atx {X : jX} (hs : X.1.stackTraces = false) {d : Nat} (hd : 1 ≤ d) {n : Nat} {mv rw nx : Nat → Nat} {b : Nat} {bt : List Int32} {kn en dn rf kk th : Int32} {w : List jC} (hR : RM n mv rw nx b bt kn en dn rf kk th w) (hn1 : 2 ≤ n) (hn2 : n ≤ 7) (gm : ∀ i, mv i < 7) (gr : ∀ i, rw i < 7) (gx : ∀ i, nx i < 7) (a : Nat) (hy0 : a < 6) {kc ks : Nat} : jMet X mX8_staysNow d kc ks [.ref 19, .int (nI a)] w (pI (fun v => v = nI (stF (fun p => mv (a * 7 + p)) n)) (fun w' => w' = w)) := by
  refine jMet_of hs (by decide +kernel) (Nat.le_of_ble_eq_true rfl) (L := [some (.ref 19), some (.int (nI a)), none, none]) rfl ?_
  have hdm : 0 ≤ d - 1 := by omega
  have hdp : d - 1 + 1 ≤ d := by omega
  have hfc := fc_7 hn2
  have hfp := fc_pos n
  obtain ⟨h19, h20, h21, h22, hbb, hbl, hb3⟩ := hR
  have hF : FR b b w w := FR.rf
  refine J_iconst (pc := 0) (v := nI 0) dX8_staysNow_0 (by decide) ?_
  refine J_istore_n (pc := 1) dX8_staysNow_1 rfl (by decide) rfl ?_
  show J X mX8_staysNow d kc ks 2 [some (.ref 19), some (.int (nI a)), some (.int (nI 0)), none] [] w _
  refine J_iconst (pc := 2) (v := nI 0) dX8_staysNow_2 (by decide) ?_
  refine J_istore_n (pc := 3) dX8_staysNow_3 rfl (by decide) rfl ?_
  show J X mX8_staysNow d kc ks 4 [some (.ref 19), some (.int (nI a)), some (.int (nI 0)), some (.int (nI 0))] [] w _
  have lp4_1 : ∀ (fuel : Nat) (y2 : Nat) (c3 : Nat), (y2 = stF (fun p => mv (a * 7 + p)) c3) → (c3 ≤ n) → (n - c3 < fuel) → J X mX8_staysNow d kc ks 4 [some (.ref 19), some (.int (nI a)), some (.int (nI y2)), some (.int (nI c3))] [] w (pI (fun v => v = nI (stF (fun p => mv (a * 7 + p)) n)) (fun w' => w' = w)) := by
    intro fuellp4_1
    induction fuellp4_1 with
    | zero => intros; omega
    | succ fuellp4_1 ihlp4_1 =>
      intro y2 c3 hv4_0 hv4_1 hf2
      have hs31 := stF_31 (fun p => mv (a * 7 + p)) (p := c3) (by omega)
      have hp31 : 2 ^ c3 < 2 ^ 31 := Nat.pow_lt_pow_right (by decide) (by omega)
      refine J_iload_n (pc := 4) dX8_staysNow_4 rfl rfl ?_
      refine J_aload_n (pc := 5) dX8_staysNow_5 rfl rfl rfl ?_
      refine J_get (pc := 6) (k := 0) dX8_staysNow_6 kC9 (by decide) ff_X8_7 h19 rfl ?_
      refine J_icmp_geN (pc := 9) (tgt := 38) dX8_staysNow_9 (by decide) (by omega) (by omega) (fun ht3 => ?_) (fun hf4 => ?_)
      · refine J_iload_n (pc := 38) dX8_staysNow_38 rfl rfl ?_
        exact J_iret (pc := 39) dX8_staysNow_39 rfl ⟨(congrArg nI (by rw [hv4_0, show c3 = n by omega])), rfl⟩
      · refine J_iload_n (pc := 12) dX8_staysNow_12 rfl rfl ?_
        refine J_aload_n (pc := 13) dX8_staysNow_13 rfl rfl rfl ?_
        refine J_iload_n (pc := 14) dX8_staysNow_14 rfl rfl ?_
        refine J_iload_n (pc := 15) dX8_staysNow_15 rfl rfl ?_
        refine J_callV0 (pc := 16) (M := mX8_staysNow) (as := [.int (nI a), .int (nI c3)]) dX8_staysNow_16 fw_X8_at fl_X8_82 fm_X8_at fe_X8_at h19 (by decide) rfl rfl rfl (c_X8_at hs (d := d - 1) (Nat.le_trans (by decide) hdm) (w := w) (n := n) (mv := mv) (rw := rw) (nx := nx) (b := b) (bt := bt) (kn := kn) (en := en) (dn := dn) (rf := rf) (kk := kk) (th := th) ⟨h19, h20, h21, h22, hbb, hbl, hb3⟩ hn1 hn2 gm gr gx a c3 (by first | assumption | omega) (by first | assumption | omega) (kc := 0) (ks := 0)) hdp (st := [.int (nI y2)]) (Nat.le_of_ble_eq_true rfl) rfl (kr_P fun v5 hv5 => ?_) kx_I
        subst hv5
        have hq6 := gm (a * 7 + c3)
        refine J_iload_n (pc := 19) dX8_staysNow_19 rfl rfl ?_
        refine J_icmp_neN (pc := 20) (tgt := 27) dX8_staysNow_20 (by decide) (by omega) (by omega) (fun ht7 => ?_) (fun hf8 => ?_)
        · refine J_iconst (pc := 27) (v := nI 0) dX8_staysNow_27 (by decide) ?_
          refine J_iload_n (pc := 28) dX8_staysNow_28 rfl rfl ?_
          refine J_ishlN (pc := 29) dX8_staysNow_29 (by omega) (by omega) ?_
          refine J_iorN (pc := 30) dX8_staysNow_30 (by omega) (by omega) ?_
          refine J_istore_n (pc := 31) dX8_staysNow_31 rfl (by decide) rfl ?_
          show J X mX8_staysNow d kc ks 32 [some (.ref 19), some (.int (nI a)), some (.int (nI (y2 ||| (0 * 2 ^ c3)))), some (.int (nI c3))] [] w _
          refine J_iincN (pc := 32) (b := 1) dX8_staysNow_32 rfl (by decide) (by decide) rfl ?_
          show J X mX8_staysNow d kc ks 35 [some (.ref 19), some (.int (nI a)), some (.int (nI (y2 ||| (0 * 2 ^ c3)))), some (.int (nI (c3 + 1)))] [] w _
          refine J_goto (pc := 35) (tgt := 4) dX8_staysNow_35 (by decide) ?_
          exact J_sub (L' := [some (.ref 19), some (.int (nI a)), some (.int (nI (y2 ||| (0 * 2 ^ c3)))), some (.int (nI (c3 + 1)))]) ⟨rfl, ⟨rfl, ⟨rfl, ⟨rfl, trivial⟩⟩⟩⟩ (ihlp4_1 (y2 ||| (0 * 2 ^ c3)) (c3 + 1) (by first | exact st_1 hv4_0 (by assumption) | exact st_0 hv4_0 (by assumption)) (by first | assumption | omega) (by omega))
        · refine J_iconst (pc := 23) (v := nI 1) dX8_staysNow_23 (by decide) ?_
          refine J_goto (pc := 24) (tgt := 28) dX8_staysNow_24 (by decide) ?_
          refine J_iload_n (pc := 28) dX8_staysNow_28 rfl rfl ?_
          refine J_shlOne (pc := 29) dX8_staysNow_29 (by omega) ?_
          refine J_iorN (pc := 30) dX8_staysNow_30 (by omega) (by omega) ?_
          refine J_istore_n (pc := 31) dX8_staysNow_31 rfl (by decide) rfl ?_
          show J X mX8_staysNow d kc ks 32 [some (.ref 19), some (.int (nI a)), some (.int (nI (y2 ||| (2 ^ c3)))), some (.int (nI c3))] [] w _
          refine J_iincN (pc := 32) (b := 1) dX8_staysNow_32 rfl (by decide) (by decide) rfl ?_
          show J X mX8_staysNow d kc ks 35 [some (.ref 19), some (.int (nI a)), some (.int (nI (y2 ||| (2 ^ c3)))), some (.int (nI (c3 + 1)))] [] w _
          refine J_goto (pc := 35) (tgt := 4) dX8_staysNow_35 (by decide) ?_
          exact J_sub (L' := [some (.ref 19), some (.int (nI a)), some (.int (nI (y2 ||| (2 ^ c3)))), some (.int (nI (c3 + 1)))]) ⟨rfl, ⟨rfl, ⟨rfl, ⟨rfl, trivial⟩⟩⟩⟩ (ihlp4_1 (y2 ||| (2 ^ c3)) (c3 + 1) (by first | exact st_1 hv4_0 (by assumption) | exact st_0 hv4_0 (by assumption)) (by first | assumption | omega) (by omega))
  exact J_sub (L' := [some (.ref 19), some (.int (nI a)), some (.int (nI 0)), some (.int (nI 0))]) ⟨rfl, ⟨rfl, ⟨rfl, ⟨rfl, trivial⟩⟩⟩⟩ (lp4_1 _ 0 0 (by rfl) (by first | assumption | omega) (Nat.lt_succ_self _))
set_option maxRecDepth 100000 in
set_option maxHeartbeats 4000000 in
theorem c_X8_areUnlike_atx {X : jX} (hs : X.1.stackTraces = false) {d : Nat} (hd : 1 ≤ d) {n : Nat} {mv rw nx : Nat → Nat} {b : Nat} {bt : List Int32} {kn en dn rf kk th : Int32} {w : List jC} (hR : RM n mv rw nx b bt kn en dn rf kk th w) (hn1 : 2 ≤ n) (hn2 : n ≤ 7) (gm : ∀ i, mv i < 7) (gr : ∀ i, rw i < 7) (gx : ∀ i, nx i < 7) (a : Nat) (c : Nat) (hy0 : a < 6) (hy1 : c < 6) {kc ks : Nat} : jMet X mX8_areUnlike d kc ks [.ref 19, .int (nI a), .int (nI c)] w (pI (fun v => (v = nI 0 ∧ ∀ p, p < n → mv (a * 7 + p) = mv (c * 7 + p)) ∨ (v = nI 1 ∧ ¬ ∀ p, p < n → mv (a * 7 + p) = mv (c * 7 + p))) (fun w' => w' = w)) := by
  refine jMet_of hs (by decide +kernel) (Nat.le_of_ble_eq_true rfl) (L := [some (.ref 19), some (.int (nI a)), some (.int (nI c)), none]) rfl ?_
  have hdm : 0 ≤ d - 1 := by omega
  have hdp : d - 1 + 1 ≤ d := by omega
  have hfc := fc_7 hn2
  have hfp := fc_pos n
  obtain ⟨h19, h20, h21, h22, hbb, hbl, hb3⟩ := hR
  have hF : FR b b w w := FR.rf
  refine J_iconst (pc := 0) (v := nI 0) dX8_areUnlike_0 (by decide) ?_
  refine J_istore_n (pc := 1) dX8_areUnlike_1 rfl (by decide) rfl ?_
  show J X mX8_areUnlike d kc ks 2 [some (.ref 19), some (.int (nI a)), some (.int (nI c)), some (.int (nI 0))] [] w _
  have lp2_1 : ∀ (fuel : Nat) (c3 : Nat), (∀ p, p < c3 → mv (a * 7 + p) = mv (c * 7 + p)) → (c3 ≤ n) → (n - c3 < fuel) → J X mX8_areUnlike d kc ks 2 [some (.ref 19), some (.int (nI a)), some (.int (nI c)), some (.int (nI c3))] [] w (pI (fun v => (v = nI 0 ∧ ∀ p, p < n → mv (a * 7 + p) = mv (c * 7 + p)) ∨ (v = nI 1 ∧ ¬ ∀ p, p < n → mv (a * 7 + p) = mv (c * 7 + p))) (fun w' => w' = w)) := by
    intro fuellp2_1
    induction fuellp2_1 with
    | zero => intros; omega
    | succ fuellp2_1 ihlp2_1 =>
      intro c3 hv2_0 hv2_1 hf2
      refine J_iload_n (pc := 2) dX8_areUnlike_2 rfl rfl ?_
      refine J_aload_n (pc := 3) dX8_areUnlike_3 rfl rfl rfl ?_
      refine J_get (pc := 4) (k := 0) dX8_areUnlike_4 kC9 (by decide) ff_X8_7 h19 rfl ?_
      refine J_icmp_geN (pc := 7) (tgt := 33) dX8_areUnlike_7 (by decide) (by omega) (by omega) (fun ht3 => ?_) (fun hf4 => ?_)
      · refine J_iconst (pc := 33) (v := nI 0) dX8_areUnlike_33 (by decide) ?_
        exact J_zret (pc := 34) dX8_areUnlike_34 rfl (nar_b (by first | decide | omega)) ⟨Or.inl ⟨rfl, (by exact fun p hp => hv2_0 p (by omega))⟩, rfl⟩
      · refine J_aload_n (pc := 10) dX8_areUnlike_10 rfl rfl rfl ?_
        refine J_iload_n (pc := 11) dX8_areUnlike_11 rfl rfl ?_
        refine J_iload_n (pc := 12) dX8_areUnlike_12 rfl rfl ?_
        refine J_callV0 (pc := 13) (M := mX8_areUnlike) (as := [.int (nI a), .int (nI c3)]) dX8_areUnlike_13 fw_X8_at fl_X8_82 fm_X8_at fe_X8_at h19 (by decide) rfl rfl rfl (c_X8_at hs (d := d - 1) (Nat.le_trans (by decide) hdm) (w := w) (n := n) (mv := mv) (rw := rw) (nx := nx) (b := b) (bt := bt) (kn := kn) (en := en) (dn := dn) (rf := rf) (kk := kk) (th := th) ⟨h19, h20, h21, h22, hbb, hbl, hb3⟩ hn1 hn2 gm gr gx a c3 (by first | assumption | omega) (by first | assumption | omega) (kc := 0) (ks := 0)) hdp (st := []) (Nat.le_of_ble_eq_true rfl) rfl (kr_P fun v5 hv5 => ?_) kx_I
        subst hv5
        have hq6 := gm (a * 7 + c3)
        refine J_aload_n (pc := 16) dX8_areUnlike_16 rfl rfl rfl ?_
        refine J_iload_n (pc := 17) dX8_areUnlike_17 rfl rfl ?_
        refine J_iload_n (pc := 18) dX8_areUnlike_18 rfl rfl ?_
        refine J_callV0 (pc := 19) (M := mX8_areUnlike) (as := [.int (nI c), .int (nI c3)]) dX8_areUnlike_19 fw_X8_at fl_X8_82 fm_X8_at fe_X8_at h19 (by decide) rfl rfl rfl (c_X8_at hs (d := d - 1) (Nat.le_trans (by decide) hdm) (w := w) (n := n) (mv := mv) (rw := rw) (nx := nx) (b := b) (bt := bt) (kn := kn) (en := en) (dn := dn) (rf := rf) (kk := kk) (th := th) ⟨h19, h20, h21, h22, hbb, hbl, hb3⟩ hn1 hn2 gm gr gx c c3 (by first | assumption | omega) (by first | assumption | omega) (kc := 0) (ks := 0)) hdp (st := [.int (nI (mv (a * 7 + c3)))]) (Nat.le_of_ble_eq_true rfl) rfl (kr_P fun v7 hv7 => ?_) kx_I
        subst hv7
        have hq8 := gm (c * 7 + c3)
        refine J_icmp_eqN (pc := 22) (tgt := 27) dX8_areUnlike_22 (by decide) (by omega) (by omega) (fun ht9 => ?_) (fun hf10 => ?_)
        · refine J_iincN (pc := 27) (b := 1) dX8_areUnlike_27 rfl (by decide) (by decide) rfl ?_
          show J X mX8_areUnlike d kc ks 30 [some (.ref 19), some (.int (nI a)), some (.int (nI c)), some (.int (nI (c3 + 1)))] [] w _
          refine J_goto (pc := 30) (tgt := 2) dX8_areUnlike_30 (by decide) ?_
          exact J_sub (L' := [some (.ref 19), some (.int (nI a)), some (.int (nI c)), some (.int (nI (c3 + 1)))]) ⟨rfl, ⟨rfl, ⟨rfl, ⟨rfl, trivial⟩⟩⟩⟩ (ihlp2_1 (c3 + 1) (by intro p hp; by_cases e : p = c3; (rw [e]; assumption); (exact hv2_0 p (by omega))) (by first | assumption | omega) (by omega))
        · refine J_iconst (pc := 25) (v := nI 1) dX8_areUnlike_25 (by decide) ?_
          exact J_zret (pc := 26) dX8_areUnlike_26 rfl (nar_b (by first | decide | omega)) ⟨Or.inr (⟨rfl, (by exact fun h => absurd (h c3 (by omega)) (by assumption))⟩), rfl⟩
  exact J_sub (L' := [some (.ref 19), some (.int (nI a)), some (.int (nI c)), some (.int (nI 0))]) ⟨rfl, ⟨rfl, ⟨rfl, ⟨rfl, trivial⟩⟩⟩⟩ (lp2_1 _ 0 (by intro p hp; omega) (by first | assumption | omega) (Nat.lt_succ_self _))
end
