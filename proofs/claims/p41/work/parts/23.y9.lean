section
/-! exact contracts of the class: espec12 -/
theorem LPo_y {po : Nat → Nat} {c : Nat} (h : cnt (fun i => (po c).testBit i) c = 0) : cnt (LPo po) c + 1 = cnt (LPo po) (c + 1) := by
  show _ = cnt (LPo po) c + (if LPo po c = true then 1 else 0)
  rw [if_pos (show LPo po c = true from beq_iff_eq.mpr h)]
theorem LPo_n {po : Nat → Nat} {c : Nat} (h : ¬ cnt (fun i => (po c).testBit i) c = 0) : cnt (LPo po) c = cnt (LPo po) (c + 1) := by
  show _ = cnt (LPo po) c + (if LPo po c = true then 1 else 0)
  rw [if_neg (show ¬ LPo po c = true from fun e => h (beq_iff_eq.mp e)), Nat.add_zero]
theorem JF_t {po : Nat → Nat} {a b p : Nat} (h : (po a ||| po b).testBit p = true) : JF po a b p = po a ||| po b := if_pos h
theorem JF_f {po : Nat → Nat} {a b p : Nat} (h : (po a ||| po b).testBit p = false) : JF po a b p = po p := if_neg (by rw [h]; decide)
theorem CO_s {n s c k : Nat} {cm po : Nat → Nat} (h : ∀ j p, j < c → s.testBit j = true → p < n → (po p).testBit (d8 (cm j) p) = true) (h2 : ∀ p, p < k → (po p).testBit (d8 (cm c) p) = true) (hk : n ≤ k) : ∀ j p, j < c + 1 → s.testBit j = true → p < n → (po p).testBit (d8 (cm j) p) = true := fun j p hj hs hp => by
  by_cases e : j = c
  · rw [e]; exact h2 p (by omega)
  · exact h j p (by omega) hs hp
theorem CO_n {n s c : Nat} {cm po : Nat → Nat} (h : ∀ j p, j < c → s.testBit j = true → p < n → (po p).testBit (d8 (cm j) p) = true) (hb : s.testBit c = false) : ∀ j p, j < c + 1 → s.testBit j = true → p < n → (po p).testBit (d8 (cm j) p) = true := fun j p hj hs hp => by
  by_cases e : j = c
  · rw [e, hb] at hs; exact absurd hs (by decide)
  · exact h j p (by omega) hs hp
set_option maxRecDepth 100000 in
set_option maxHeartbeats 4000000 in
theorem c_X4_partWith_atx {X : jX} (hs : X.1.stackTraces = false) {d : Nat} (hd : 0 ≤ d) {po : Nat → Nat} {tn : Nat} {w : List jC} (hR : TM po tn w) (p : Nat) (hy0 : p < tn) (hy1 : tn ≤ 7) {kc ks : Nat} : jMet X mX4_partWith d kc ks [.ref 12, .int (nI p)] w (pI (fun v => v = nI (po p)) (fun w' => w' = w)) := by
  refine jMet_of hs (by decide +kernel) (Nat.le_of_ble_eq_true rfl) (L := [some (.ref 12), some (.int (nI p))]) rfl ?_
  obtain ⟨h12, h13⟩ := hR
  have hF : FB 12 13 w w := FB.rf
  refine J_iload_n (pc := 0) dX4_partWith_0 rfl rfl ?_
  refine J_if_ltN (pc := 1) (tgt := 12) dX4_partWith_1 (by decide) (by omega) (fun hf2 => ?_)
  refine J_iload_n (pc := 4) dX4_partWith_4 rfl rfl ?_
  refine J_aload_n (pc := 5) dX4_partWith_5 rfl rfl rfl ?_
  refine J_get (pc := 6) (k := 1) dX4_partWith_6 kC5 (by decide) ff_X4_17 h12 rfl ?_
  refine J_icmp_ltN (pc := 9) (tgt := 16) dX4_partWith_9 (by decide) (by omega) (by omega) (fun ht3 => ?_) (fun hf4 => ?_)
  · refine J_aload_n (pc := 16) dX4_partWith_16 rfl rfl rfl ?_
    refine J_get (pc := 17) (k := 0) dX4_partWith_17 kC5 (by decide) ff_X4_11 h12 rfl ?_
    refine J_iload_n (pc := 20) dX4_partWith_20 rfl rfl ?_
    refine J_ialdF (pc := 21) dX4_partWith_21 h13 (by omega) (by decide) ?_
    exact J_iret (pc := 22) dX4_partWith_22 rfl ⟨rfl, rfl⟩
  · exact absurd hy0 (by omega)
set_option maxRecDepth 100000 in
set_option maxHeartbeats 4000000 in
theorem c_X4_parts_atx {X : jX} (hs : X.1.stackTraces = false) {d : Nat} (hd : 2 ≤ d) {po : Nat → Nat} {tn : Nat} {w : List jC} (hR : TM po tn w) (hy0 : tn ≤ 7) (hy1 : ∀ p, p < 8 → po p < 2 ^ 8) {kc ks : Nat} : jMet X mX4_parts d kc ks [.ref 12] w (pI (fun v => v = nI (NC po tn)) (fun w' => w' = w)) := by
  refine jMet_of hs (by decide +kernel) (Nat.le_of_ble_eq_true rfl) (L := [some (.ref 12), none, none]) rfl ?_
  have hdm : 1 ≤ d - 1 := by omega
  have hdp : d - 1 + 1 ≤ d := by omega
  obtain ⟨h12, h13⟩ := hR
  have hF : FB 12 13 w w := FB.rf
  refine J_iconst (pc := 0) (v := nI 0) dX4_parts_0 (by decide) ?_
  refine J_istore_n (pc := 1) dX4_parts_1 rfl (by decide) rfl ?_
  show J X mX4_parts d kc ks 2 [some (.ref 12), some (.int (nI 0)), none] [] w _
  refine J_iconst (pc := 2) (v := nI 0) dX4_parts_2 (by decide) ?_
  refine J_istore_n (pc := 3) dX4_parts_3 rfl (by decide) rfl ?_
  show J X mX4_parts d kc ks 4 [some (.ref 12), some (.int (nI 0)), some (.int (nI 0))] [] w _
  have lp4_1 : ∀ (fuel : Nat) (c2 : Nat), (c2 ≤ tn) → (tn - c2 < fuel) → J X mX4_parts d kc ks 4 [some (.ref 12), some (.int (nI (cnt (LPo po) c2))), some (.int (nI c2))] [] w (pI (fun v => v = nI (NC po tn)) (fun w' => w' = w)) := by
    intro fuellp4_1
    induction fuellp4_1 with
    | zero => intros; omega
    | succ fuellp4_1 ihlp4_1 =>
      intro c2 hv4_0 hf2
      refine J_iload_n (pc := 4) dX4_parts_4 rfl rfl ?_
      refine J_aload_n (pc := 5) dX4_parts_5 rfl rfl rfl ?_
      refine J_get (pc := 6) (k := 1) dX4_parts_6 kC5 (by decide) ff_X4_17 h12 rfl ?_
      refine J_icmp_geN (pc := 9) (tgt := 34) dX4_parts_9 (by decide) (by omega) (by omega) (fun ht3 => ?_) (fun hf4 => ?_)
      · refine J_iload_n (pc := 34) dX4_parts_34 rfl rfl ?_
        exact J_iret (pc := 35) dX4_parts_35 rfl ⟨(congrArg nI (by rw [show c2 = tn by omega]; rfl)), rfl⟩
      · refine J_aload_n (pc := 12) dX4_parts_12 rfl rfl rfl ?_
        refine J_get (pc := 13) (k := 0) dX4_parts_13 kC5 (by decide) ff_X4_11 h12 rfl ?_
        refine J_iload_n (pc := 16) dX4_parts_16 rfl rfl ?_
        refine J_ialdF (pc := 17) dX4_parts_17 h13 (by omega) (by decide) ?_
        refine J_iload_n (pc := 18) dX4_parts_18 rfl rfl ?_
        refine J_callSN0 (pc := 19) (M := mX4_parts) (as := [.int (nI (po c2)), .int (nI c2)]) dX4_parts_19 fw_X6_howManyBelow fl_X4_21 fs_X6_howManyBelow rfl (c_X6_howManyBelow_atx hs (d := d - 1) (Nat.le_trans (by decide) hdm) (w := w) (po c2) c2 (by have := hy1 c2 (by omega); omega) (by omega) (kc := 0) (ks := 0)) hdp (st := []) (Nat.le_of_ble_eq_true rfl) rfl (kr_P fun v5 hv5 => ?_) kx_I
        subst hv5
        have hcl := cnt_le (fun i => (po c2).testBit i) c2
        refine J_if_neN (pc := 22) (tgt := 28) dX4_parts_22 (by decide) (by omega) (fun ht6 => ?_) (fun hf7 => ?_)
        · refine J_iincN (pc := 28) (b := 1) dX4_parts_28 rfl (by decide) (by decide) rfl ?_
          show J X mX4_parts d kc ks 31 [some (.ref 12), some (.int (nI (cnt (LPo po) c2))), some (.int (nI (c2 + 1)))] [] w _
          refine J_goto (pc := 31) (tgt := 4) dX4_parts_31 (by decide) ?_
          exact J_sub (L' := [some (.ref 12), some (.int (nI (cnt (LPo po) (c2 + 1)))), some (.int (nI (c2 + 1)))]) ⟨rfl, ⟨(congrArg (fun z => some (Value.int (nI z))) (show cnt (LPo po) c2 = cnt (LPo po) (c2 + 1) by first | exact LPo_y (by assumption) | exact LPo_n (by assumption))), ⟨rfl, trivial⟩⟩⟩ (ihlp4_1 (c2 + 1) (by first | assumption | omega) (by omega))
        · refine J_iincN (pc := 25) (b := 1) dX4_parts_25 rfl (by decide) (by decide) rfl ?_
          show J X mX4_parts d kc ks 28 [some (.ref 12), some (.int (nI (cnt (LPo po) c2 + 1))), some (.int (nI c2))] [] w _
          refine J_iincN (pc := 28) (b := 1) dX4_parts_28 rfl (by decide) (by decide) rfl ?_
          show J X mX4_parts d kc ks 31 [some (.ref 12), some (.int (nI (cnt (LPo po) c2 + 1))), some (.int (nI (c2 + 1)))] [] w _
          refine J_goto (pc := 31) (tgt := 4) dX4_parts_31 (by decide) ?_
          exact J_sub (L' := [some (.ref 12), some (.int (nI (cnt (LPo po) (c2 + 1)))), some (.int (nI (c2 + 1)))]) ⟨rfl, ⟨(congrArg (fun z => some (Value.int (nI z))) (show cnt (LPo po) c2 + 1 = cnt (LPo po) (c2 + 1) by first | exact LPo_y (by assumption) | exact LPo_n (by assumption))), ⟨rfl, trivial⟩⟩⟩ (ihlp4_1 (c2 + 1) (by first | assumption | omega) (by omega))
  exact J_sub (L' := [some (.ref 12), some (.int (nI (cnt (LPo po) 0))), some (.int (nI 0))]) ⟨rfl, ⟨(congrArg (fun z => some (Value.int (nI z))) (show 0 = cnt (LPo po) 0 by rfl)), ⟨rfl, trivial⟩⟩⟩ (lp4_1 _ 0 (by first | assumption | omega) (Nat.lt_succ_self _))
set_option maxRecDepth 100000 in
set_option maxHeartbeats 4000000 in
theorem c_X4_separate_atx {X : jX} (hs : X.1.stackTraces = false) {d : Nat} (hd : 0 ≤ d) {po : Nat → Nat} {tn : Nat} {w : List jC} (hR : TM po tn w) (n9 : Nat) {kc ks : Nat} : jMet X mX4_separate d kc ks [.ref 12, .int (nI n9)] w (pV (fun w' => ∃ (po' : Nat → Nat), TM po' n9 w' ∧ FB 12 13 w w' ∧ (∀ p, p < 8 → po' p = 2 ^ p))) := by
  refine jMet_of hs (by decide +kernel) (Nat.le_of_ble_eq_true rfl) (L := [some (.ref 12), some (.int (nI n9)), none]) rfl ?_
  obtain ⟨h12, h13⟩ := hR
  have hF : FB 12 13 w w := FB.rf
  refine J_aload_n (pc := 0) dX4_separate_0 rfl rfl rfl ?_
  refine J_iload_n (pc := 1) dX4_separate_1 rfl rfl ?_
  refine J_putW (pc := 2) (k := 1) dX4_separate_2 kC5 (by decide) ff_X4_17 (Or.inl rfl) ⟨rfl, rfl⟩ h12 (by show 1 < 2; decide) (fun w1 hln1 hw1 hne1 => ?_)
  have h12_1 : w1[12]? = some (.inr (5, [.ref 13, .int (nI n9)])) := hw1
  have h13_1 := (hne1 13 (by decide)).trans h13
  have hF1 := hF.st hln1 hne1 (by decide)
  refine J_iconst (pc := 5) (v := nI 0) dX4_separate_5 (by decide) ?_
  refine J_istore_n (pc := 6) dX4_separate_6 rfl (by decide) rfl ?_
  show J X mX4_separate d kc ks 7 [some (.ref 12), some (.int (nI n9)), some (.int (nI 0))] [] w1 _
  have lp7_2 : ∀ (fuel : Nat) (w3 : List jC) (po_7 : Nat → Nat) (c2 : Nat), (TM po_7 n9 w3) → (FB 12 13 w w3) → (∀ p, p < c2 → po_7 p = 2 ^ p) → (c2 ≤ 8) → (8 - c2 < fuel) → J X mX4_separate d kc ks 7 [some (.ref 12), some (.int (nI n9)), some (.int (nI c2))] [] w3 (pV (fun w' => ∃ (po' : Nat → Nat), TM po' n9 w' ∧ FB 12 13 w w' ∧ (∀ p, p < 8 → po' p = 2 ^ p))) := by
    intro fuellp7_2
    induction fuellp7_2 with
    | zero => intros; omega
    | succ fuellp7_2 ihlp7_2 =>
      intro w3 po_7 c2 hR4 hF5 hv7_0 hv7_1 hf6
      obtain ⟨h12_7, h13_7⟩ := hR4
      refine J_iload_n (pc := 7) dX4_separate_7 rfl rfl ?_
      refine J_bipush (pc := 8) (v := nI 8) dX4_separate_8 (by decide) ?_
      refine J_icmp_geN (pc := 10) (tgt := 28) dX4_separate_10 (by decide) (by omega) (by omega) (fun ht8 => ?_) (fun hf9 => ?_)
      · exact J_vret (pc := 28) dX4_separate_28 rfl (⟨po_7, ⟨h12_7, h13_7⟩, hF5, (by exact fun p hp => hv7_0 p (by omega))⟩)
      · refine J_aload_n (pc := 13) dX4_separate_13 rfl rfl rfl ?_
        refine J_get (pc := 14) (k := 0) dX4_separate_14 kC5 (by decide) ff_X4_11 h12_7 rfl ?_
        refine J_iload_n (pc := 17) dX4_separate_17 rfl rfl ?_
        refine J_iconst (pc := 18) (v := nI 1) dX4_separate_18 (by decide) ?_
        refine J_iload_n (pc := 19) dX4_separate_19 rfl rfl ?_
        refine J_shlOne (pc := 20) dX4_separate_20 (by omega) ?_
        refine J_iastF (pc := 21) dX4_separate_21 h13_7 (by omega) (by decide) (fun w10 hln10 hc10 hne10 => ?_)
        have h12_10 := (hne10 12 (by decide)).trans h12_7
        have hF10 := hF5.st hln10 hne10 (by decide)
        refine J_iincN (pc := 22) (b := 1) dX4_separate_22 rfl (by decide) (by decide) rfl ?_
        show J X mX4_separate d kc ks 25 [some (.ref 12), some (.int (nI n9)), some (.int (nI (c2 + 1)))] [] w10 _
        refine J_goto (pc := 25) (tgt := 7) dX4_separate_25 (by decide) ?_
        exact J_sub (L' := [some (.ref 12), some (.int (nI n9)), some (.int (nI (c2 + 1)))]) ⟨rfl, ⟨rfl, ⟨rfl, trivial⟩⟩⟩ (ihlp7_2 w10 (up po_7 c2 (2 ^ c2)) (c2 + 1) ⟨h12_10, hc10⟩ hF10 (by intro p hp; by_cases e : p = c2; (rw [e]; exact up_s _ _ _); (rw [up_n e]; exact hv7_0 p (by omega))) (by first | assumption | omega) (by omega))
  exact J_sub (L' := [some (.ref 12), some (.int (nI n9)), some (.int (nI 0))]) ⟨rfl, ⟨rfl, ⟨rfl, trivial⟩⟩⟩ (lp7_2 _ w1 po 0 ⟨h12_1, h13_1⟩ hF1 (by intro p hp; omega) (by first | assumption | omega) (Nat.lt_succ_self _))
set_option maxRecDepth 100000 in
set_option maxHeartbeats 4000000 in
theorem c_X4_join_atx {X : jX} (hs : X.1.stackTraces = false) {d : Nat} (hd : 1 ≤ d) {po : Nat → Nat} {tn : Nat} {w : List jC} (hR : TM po tn w) (a : Nat) (b : Nat) (hy0 : a < 8) (hy1 : b < 8) (hy2 : PT po) {kc ks : Nat} : jMet X mX4_join d kc ks [.ref 12, .int (nI a), .int (nI b)] w (pI (fun v => (v = nI 0 ∧ (po a).testBit b = true) ∨ (v = nI 1 ∧ (po a).testBit b = false)) (fun w' => ∃ (po' : Nat → Nat), TM po' tn w' ∧ FB 12 13 w w' ∧ (JP po a b po'))) := by
  refine jMet_of hs (by decide +kernel) (Nat.le_of_ble_eq_true rfl) (L := [some (.ref 12), some (.int (nI a)), some (.int (nI b)), none, none]) rfl ?_
  have hdm : 0 ≤ d - 1 := by omega
  have hdp : d - 1 + 1 ≤ d := by omega
  obtain ⟨h12, h13⟩ := hR
  have hF : FB 12 13 w w := FB.rf
  have hpa := hy2.1 a hy0
  have hpb := hy2.1 b hy1
  have hpo := Nat.or_lt_two_pow hpa hpb
  refine J_aload_n (pc := 0) dX4_join_0 rfl rfl rfl ?_
  refine J_get (pc := 1) (k := 0) dX4_join_1 kC5 (by decide) ff_X4_11 h12 rfl ?_
  refine J_iload_n (pc := 4) dX4_join_4 rfl rfl ?_
  refine J_ialdF (pc := 5) dX4_join_5 h13 (by omega) (by decide) ?_
  refine J_iload_n (pc := 6) dX4_join_6 rfl rfl ?_
  refine J_callSN0 (pc := 7) (M := mX4_join) (as := [.int (nI (po a)), .int (nI b)]) dX4_join_7 fw_X6_has fl_X4_29 fs_X6_has rfl (c_X6_has_atx hs (d := d - 1) (Nat.le_trans (by decide) hdm) (w := w) (po a) b (by omega) (by omega) (kc := 0) (ks := 0)) hdp (st := []) (Nat.le_of_ble_eq_true rfl) rfl (kr_P fun v1 hv1 => ?_) kx_I
  rcases hv1 with ⟨rfl, hk1_0⟩ | ⟨rfl, hk1_0⟩
  · refine J_if_eqN (pc := 10) (tgt := 15) dX4_join_10 (by decide) (by decide) (fun _ => ?_) (fun h => absurd h (by decide))
    refine J_aload_n (pc := 15) dX4_join_15 rfl rfl rfl ?_
    refine J_get (pc := 16) (k := 0) dX4_join_16 kC5 (by decide) ff_X4_11 h12 rfl ?_
    refine J_iload_n (pc := 19) dX4_join_19 rfl rfl ?_
    refine J_ialdF (pc := 20) dX4_join_20 h13 (by omega) (by decide) ?_
    refine J_aload_n (pc := 21) dX4_join_21 rfl rfl rfl ?_
    refine J_get (pc := 22) (k := 0) dX4_join_22 kC5 (by decide) ff_X4_11 h12 rfl ?_
    refine J_iload_n (pc := 25) dX4_join_25 rfl rfl ?_
    refine J_ialdF (pc := 26) dX4_join_26 h13 (by omega) (by decide) ?_
    refine J_iorN (pc := 27) dX4_join_27 (by omega) (by omega) ?_
    refine J_istore_n (pc := 28) dX4_join_28 rfl (by decide) rfl ?_
    show J X mX4_join d kc ks 29 [some (.ref 12), some (.int (nI a)), some (.int (nI b)), some (.int (nI ((po a) ||| (po b)))), none] [] w _
    refine J_iconst (pc := 29) (v := nI 0) dX4_join_29 (by decide) ?_
    refine J_istore (pc := 30) dX4_join_30 (by decide) rfl ?_
    show J X mX4_join d kc ks 32 [some (.ref 12), some (.int (nI a)), some (.int (nI b)), some (.int (nI ((po a) ||| (po b)))), some (.int (nI 0))] [] w _
    have lp32_2 : ∀ (fuel : Nat) (w3 : List jC) (po_32 : Nat → Nat) (c4 : Nat), (TM po_32 tn w3) → (FB 12 13 w w3) → (∀ p, p < c4 → po_32 p = JF po a b p) → (∀ p, c4 ≤ p → po_32 p = po p) → (c4 ≤ 8) → (8 - c4 < fuel) → J X mX4_join d kc ks 32 [some (.ref 12), some (.int (nI a)), some (.int (nI b)), some (.int (nI ((po a) ||| (po b)))), some (.int (nI c4))] [] w3 (pI (fun v => (v = nI 0 ∧ (po a).testBit b = true) ∨ (v = nI 1 ∧ (po a).testBit b = false)) (fun w' => ∃ (po' : Nat → Nat), TM po' tn w' ∧ FB 12 13 w w' ∧ (JP po a b po'))) := by
      intro fuellp32_2
      induction fuellp32_2 with
      | zero => intros; omega
      | succ fuellp32_2 ihlp32_2 =>
        intro w3 po_32 c4 hR4 hF5 hv32_0 hv32_1 hv32_2 hf6
        obtain ⟨h12_7, h13_7⟩ := hR4
        refine J_iload (pc := 32) dX4_join_32 rfl ?_
        refine J_bipush (pc := 34) (v := nI 8) dX4_join_34 (by decide) ?_
        refine J_icmp_geN (pc := 36) (tgt := 62) dX4_join_36 (by decide) (by omega) (by omega) (fun ht8 => ?_) (fun hf9 => ?_)
        · refine J_iconst (pc := 62) (v := nI 1) dX4_join_62 (by decide) ?_
          exact J_zret (pc := 63) dX4_join_63 rfl (nar_b (by first | decide | omega)) ⟨Or.inr (⟨rfl, (by assumption)⟩), ⟨po_32, ⟨h12_7, h13_7⟩, hF5, (by first | exact Or.inl ⟨by assumption, rfl⟩ | exact Or.inr ⟨by assumption, fun p hp => hv32_0 p (by omega)⟩)⟩⟩
        · refine J_iload_n (pc := 39) dX4_join_39 rfl rfl ?_
          refine J_iload (pc := 40) dX4_join_40 rfl ?_
          refine J_callSN0 (pc := 42) (M := mX4_join) (as := [.int (nI ((po a) ||| (po b))), .int (nI c4)]) dX4_join_42 fw_X6_has fl_X4_29 fs_X6_has rfl (c_X6_has_atx hs (d := d - 1) (Nat.le_trans (by decide) hdm) (w := w3) ((po a) ||| (po b)) c4 (by omega) (by omega) (kc := 0) (ks := 0)) hdp (st := []) (Nat.le_of_ble_eq_true rfl) rfl (kr_P fun v10 hv10 => ?_) kx_I
          rcases hv10 with ⟨rfl, hk10_0⟩ | ⟨rfl, hk10_0⟩
          · refine J_if_eqN (pc := 45) (tgt := 56) dX4_join_45 (by decide) (by decide) (fun _ => ?_) (fun h => absurd h (by decide))
            refine J_iincN (pc := 56) (b := 1) dX4_join_56 rfl (by decide) (by decide) rfl ?_
            show J X mX4_join d kc ks 59 [some (.ref 12), some (.int (nI a)), some (.int (nI b)), some (.int (nI ((po a) ||| (po b)))), some (.int (nI (c4 + 1)))] [] w3 _
            refine J_goto (pc := 59) (tgt := 32) dX4_join_59 (by decide) ?_
            exact J_sub (L' := [some (.ref 12), some (.int (nI a)), some (.int (nI b)), some (.int (nI ((po a) ||| (po b)))), some (.int (nI (c4 + 1)))]) ⟨rfl, ⟨rfl, ⟨rfl, ⟨rfl, ⟨rfl, trivial⟩⟩⟩⟩⟩ (ihlp32_2 w3 po_32 (c4 + 1) ⟨h12_7, h13_7⟩ hF5 (by intro p hp; by_cases e : p = c4; (subst e; first | (rw [up_s]; exact (JF_t (by assumption)).symm) | exact (hv32_1 p (Nat.le_refl p)).trans (JF_f (by assumption)).symm); (first | (rw [up_n e]; exact hv32_0 p (by omega)) | exact hv32_0 p (by omega))) (by intro p hp; first | (rw [up_n (by omega)]; exact hv32_1 p (by omega)) | exact hv32_1 p (by omega)) (by first | assumption | omega) (by omega))
          · refine J_if_eqN (pc := 45) (tgt := 56) dX4_join_45 (by decide) (by decide) (fun h => absurd h (by decide)) (fun _ => ?_)
            refine J_aload_n (pc := 48) dX4_join_48 rfl rfl rfl ?_
            refine J_get (pc := 49) (k := 0) dX4_join_49 kC5 (by decide) ff_X4_11 h12_7 rfl ?_
            refine J_iload (pc := 52) dX4_join_52 rfl ?_
            refine J_iload_n (pc := 54) dX4_join_54 rfl rfl ?_
            refine J_iastF (pc := 55) dX4_join_55 h13_7 (by omega) (by decide) (fun w11 hln11 hc11 hne11 => ?_)
            have h12_11 := (hne11 12 (by decide)).trans h12_7
            have hF11 := hF5.st hln11 hne11 (by decide)
            refine J_iincN (pc := 56) (b := 1) dX4_join_56 rfl (by decide) (by decide) rfl ?_
            show J X mX4_join d kc ks 59 [some (.ref 12), some (.int (nI a)), some (.int (nI b)), some (.int (nI ((po a) ||| (po b)))), some (.int (nI (c4 + 1)))] [] w11 _
            refine J_goto (pc := 59) (tgt := 32) dX4_join_59 (by decide) ?_
            exact J_sub (L' := [some (.ref 12), some (.int (nI a)), some (.int (nI b)), some (.int (nI ((po a) ||| (po b)))), some (.int (nI (c4 + 1)))]) ⟨rfl, ⟨rfl, ⟨rfl, ⟨rfl, ⟨rfl, trivial⟩⟩⟩⟩⟩ (ihlp32_2 w11 (up po_32 c4 ((po a) ||| (po b))) (c4 + 1) ⟨h12_11, hc11⟩ hF11 (by intro p hp; by_cases e : p = c4; (subst e; first | (rw [up_s]; exact (JF_t (by assumption)).symm) | exact (hv32_1 p (Nat.le_refl p)).trans (JF_f (by assumption)).symm); (first | (rw [up_n e]; exact hv32_0 p (by omega)) | exact hv32_0 p (by omega))) (by intro p hp; first | (rw [up_n (by omega)]; exact hv32_1 p (by omega)) | exact hv32_1 p (by omega)) (by first | assumption | omega) (by omega))
    exact J_sub (L' := [some (.ref 12), some (.int (nI a)), some (.int (nI b)), some (.int (nI ((po a) ||| (po b)))), some (.int (nI 0))]) ⟨rfl, ⟨rfl, ⟨rfl, ⟨rfl, ⟨rfl, trivial⟩⟩⟩⟩⟩ (lp32_2 _ w po 0 ⟨h12, h13⟩ hF (by intro p hp; omega) (by intro p hp; rfl) (by first | assumption | omega) (Nat.lt_succ_self _))
  · refine J_if_eqN (pc := 10) (tgt := 15) dX4_join_10 (by decide) (by decide) (fun h => absurd h (by decide)) (fun _ => ?_)
    refine J_iconst (pc := 13) (v := nI 0) dX4_join_13 (by decide) ?_
    exact J_zret (pc := 14) dX4_join_14 rfl (nar_b (by first | decide | omega)) ⟨Or.inl ⟨rfl, (by assumption)⟩, ⟨po, ⟨h12, h13⟩, hF, (by first | exact Or.inl ⟨by assumption, rfl⟩ | exact Or.inr ⟨by assumption, fun p hp => hv32_0 p (by omega)⟩)⟩⟩
set_option maxRecDepth 100000 in
set_option maxHeartbeats 4000000 in
theorem c_X4_joinComing_atx {X : jX} (hs : X.1.stackTraces = false) {d : Nat} (hd : 2 ≤ d) {po : Nat → Nat} {tn : Nat} {w : List jC} (hR : TM po tn w) {cm : Nat → Nat} (h1 : w[1]? = some (aF 6 cm)) (s : Nat) (n9 : Nat) (hy0 : n9 ≤ 7) (hy1 : ∀ c, c < 6 → Mv n9 (cm c)) (hy2 : s < 64) {kc ks : Nat} : jMet X mX4_joinComing d kc ks [.ref 12, .ref 1, .int (nI s), .int (nI n9)] w (pV (fun w' => ∃ (po' : Nat → Nat), TM po' n9 w' ∧ FB 12 13 w w' ∧ (PT po') ∧ (∀ c p, c < 6 → s.testBit c = true → p < n9 → (po' p).testBit (d8 (cm c) p) = true) ∧ (∀ R, EqR R → (∀ c p, c < 6 → s.testBit c = true → p < n9 → R p (d8 (cm c) p)) → PU R po'))) := by
  refine jMet_of hs (by decide +kernel) (Nat.le_of_ble_eq_true rfl) (L := [some (.ref 12), some (.ref 1), some (.int (nI s)), some (.int (nI n9)), none, none]) rfl ?_
  have hdm : 1 ≤ d - 1 := by omega
  have hdp : d - 1 + 1 ≤ d := by omega
  obtain ⟨h12, h13⟩ := hR
  have hF : FB 12 13 w w := FB.rf
  refine J_aload_n (pc := 0) dX4_joinComing_0 rfl rfl rfl ?_
  refine J_iload_n (pc := 1) dX4_joinComing_1 rfl rfl ?_
  refine J_callV0 (pc := 2) (M := mX4_joinComing) (as := [.int (nI n9)]) dX4_joinComing_2 fw_X4_separate fl_X4_25 fm_X4_separate fe_X4_separate h12 (by decide) rfl rfl rfl (c_X4_separate_atx hs (d := d - 1) (Nat.le_trans (by decide) hdm) (w := w) (po := po) (tn := tn) ⟨h12, h13⟩ n9 (kc := 0) (ks := 0)) hdp (st := []) (Nat.le_of_ble_eq_true rfl) rfl (kr_V fun w1 hw1 => ?_) kx_V
  obtain ⟨po1, hR1, hFc1, hp1_0⟩ := hw1
  obtain ⟨h12_1, h13_1⟩ := hR1
  have h1_1 := (hFc1.2 1 (by decide)).trans h1
  have hF1 := hF.tr hFc1
  refine J_iconst (pc := 5) (v := nI 0) dX4_joinComing_5 (by decide) ?_
  refine J_istore (pc := 6) dX4_joinComing_6 (by decide) rfl ?_
  show J X mX4_joinComing d kc ks 8 [some (.ref 12), some (.ref 1), some (.int (nI s)), some (.int (nI n9)), some (.int (nI 0)), none] [] w1 _
  have lp8_2 : ∀ (fuel : Nat) (w3 : List jC) (po_8 : Nat → Nat) (c4 : Nat), (TM po_8 n9 w3) → (FB 12 13 w w3) → (PT po_8) → (∀ c p, c < c4 → s.testBit c = true → p < n9 → (po_8 p).testBit (d8 (cm c) p) = true) → (∀ R, EqR R → (∀ c p, c < 6 → s.testBit c = true → p < n9 → R p (d8 (cm c) p)) → PU R po_8) → (c4 ≤ 6) → (6 - c4 < fuel) → J X mX4_joinComing d kc ks 8 [some (.ref 12), some (.ref 1), some (.int (nI s)), some (.int (nI n9)), some (.int (nI c4)), none] [] w3 (pV (fun w' => ∃ (po' : Nat → Nat), TM po' n9 w' ∧ FB 12 13 w w' ∧ (PT po') ∧ (∀ c p, c < 6 → s.testBit c = true → p < n9 → (po' p).testBit (d8 (cm c) p) = true) ∧ (∀ R, EqR R → (∀ c p, c < 6 → s.testBit c = true → p < n9 → R p (d8 (cm c) p)) → PU R po'))) := by
    intro fuellp8_2
    induction fuellp8_2 with
    | zero => intros; omega
    | succ fuellp8_2 ihlp8_2 =>
      intro w3 po_8 c4 hR4 hF5 hv8_0 hv8_1 hv8_2 hv8_3 hf6
      obtain ⟨h12_7, h13_7⟩ := hR4
      have h1_7 := (hF5.2 1 (by decide)).trans h1
      refine J_iload (pc := 8) dX4_joinComing_8 rfl ?_
      refine J_aload_n (pc := 10) dX4_joinComing_10 rfl rfl rfl ?_
      refine J_alen (pc := 11) (n := nI 6) dX4_joinComing_11 h1_7 (by decide) (by rw [List.length_map, List.length_range]; rfl) ?_
      refine J_icmp_geN (pc := 12) (tgt := 64) dX4_joinComing_12 (by decide) (by omega) (by omega) (fun ht8 => ?_) (fun hf9 => ?_)
      · exact J_vret (pc := 64) dX4_joinComing_64 rfl (⟨po_8, ⟨h12_7, h13_7⟩, hF5, (by exact hv8_0), (by exact fun c p hc hs hp => hv8_1 c p (by omega) hs hp), (by exact hv8_2)⟩)
      · refine J_iconst (pc := 15) (v := nI 0) dX4_joinComing_15 (by decide) ?_
        refine J_istore (pc := 16) dX4_joinComing_16 (by decide) rfl ?_
        show J X mX4_joinComing d kc ks 18 [some (.ref 12), some (.ref 1), some (.int (nI s)), some (.int (nI n9)), some (.int (nI c4)), some (.int (nI 0))] [] w3 _
        have lp18_10 : ∀ (fuel : Nat) (w11 : List jC) (po_18 : Nat → Nat) (c5 : Nat), (TM po_18 n9 w11) → (FB 12 13 w w11) → (PT po_18) → (∀ c p, c < c4 → s.testBit c = true → p < n9 → (po_18 p).testBit (d8 (cm c) p) = true) → (∀ R, EqR R → (∀ c p, c < 6 → s.testBit c = true → p < n9 → R p (d8 (cm c) p)) → PU R po_18) → (∀ p, p < c5 → (po_18 p).testBit (d8 (cm c4) p) = true) → (c5 ≤ n9) → (n9 - c5 < fuel) → J X mX4_joinComing d kc ks 18 [some (.ref 12), some (.ref 1), some (.int (nI s)), some (.int (nI n9)), some (.int (nI c4)), some (.int (nI c5))] [] w11 (pV (fun w' => ∃ (po' : Nat → Nat), TM po' n9 w' ∧ FB 12 13 w w' ∧ (PT po') ∧ (∀ c p, c < 6 → s.testBit c = true → p < n9 → (po' p).testBit (d8 (cm c) p) = true) ∧ (∀ R, EqR R → (∀ c p, c < 6 → s.testBit c = true → p < n9 → R p (d8 (cm c) p)) → PU R po'))) := by
          intro fuellp18_10
          induction fuellp18_10 with
          | zero => intros; omega
          | succ fuellp18_10 ihlp18_10 =>
            intro w11 po_18 c5 hR12 hF13 hv18_0 hv18_1 hv18_2 hv18_3 hv18_4 hf14
            obtain ⟨h12_15, h13_15⟩ := hR12
            have h1_15 := (hF13.2 1 (by decide)).trans h1
            refine J_iload (pc := 18) dX4_joinComing_18 rfl ?_
            refine J_aload_n (pc := 20) dX4_joinComing_20 rfl rfl rfl ?_
            refine J_get (pc := 21) (k := 1) dX4_joinComing_21 kC5 (by decide) ff_X4_17 h12_15 rfl ?_
            refine J_icmp_geN (pc := 24) (tgt := 58) dX4_joinComing_24 (by decide) (by omega) (by omega) (fun ht16 => ?_) (fun hf17 => ?_)
            · refine J_iincN (pc := 58) (b := 1) dX4_joinComing_58 rfl (by decide) (by decide) rfl ?_
              show J X mX4_joinComing d kc ks 61 [some (.ref 12), some (.ref 1), some (.int (nI s)), some (.int (nI n9)), some (.int (nI (c4 + 1))), some (.int (nI c5))] [] w11 _
              refine J_goto (pc := 61) (tgt := 8) dX4_joinComing_61 (by decide) ?_
              exact J_sub (L' := [some (.ref 12), some (.ref 1), some (.int (nI s)), some (.int (nI n9)), some (.int (nI (c4 + 1))), none]) ⟨rfl, ⟨rfl, ⟨rfl, ⟨rfl, ⟨rfl, trivial⟩⟩⟩⟩⟩ (ihlp8_2 w11 po_18 (c4 + 1) ⟨h12_15, h13_15⟩ hF13 (by exact hv18_0) (by first | exact CO_s hv18_1 hv18_3 (by omega) | exact CO_n hv18_1 (by assumption)) (by exact hv18_2) (by first | assumption | omega) (by omega))
            · refine J_iload_n (pc := 27) dX4_joinComing_27 rfl rfl ?_
              refine J_iload (pc := 28) dX4_joinComing_28 rfl ?_
              refine J_callSN0 (pc := 30) (M := mX4_joinComing) (as := [.int (nI s), .int (nI c4)]) dX4_joinComing_30 fw_X6_has fl_X4_29 fs_X6_has rfl (c_X6_has_atx hs (d := d - 1) (Nat.le_trans (by decide) hdm) (w := w11) s c4 (by omega) (by omega) (kc := 0) (ks := 0)) hdp (st := []) (Nat.le_of_ble_eq_true rfl) rfl (kr_P fun v18 hv18 => ?_) kx_I
              rcases hv18 with ⟨rfl, hk18_0⟩ | ⟨rfl, hk18_0⟩
              · refine J_if_eqN (pc := 33) (tgt := 58) dX4_joinComing_33 (by decide) (by decide) (fun _ => ?_) (fun h => absurd h (by decide))
                refine J_iincN (pc := 58) (b := 1) dX4_joinComing_58 rfl (by decide) (by decide) rfl ?_
                show J X mX4_joinComing d kc ks 61 [some (.ref 12), some (.ref 1), some (.int (nI s)), some (.int (nI n9)), some (.int (nI (c4 + 1))), some (.int (nI c5))] [] w11 _
                refine J_goto (pc := 61) (tgt := 8) dX4_joinComing_61 (by decide) ?_
                exact J_sub (L' := [some (.ref 12), some (.ref 1), some (.int (nI s)), some (.int (nI n9)), some (.int (nI (c4 + 1))), none]) ⟨rfl, ⟨rfl, ⟨rfl, ⟨rfl, ⟨rfl, trivial⟩⟩⟩⟩⟩ (ihlp8_2 w11 po_18 (c4 + 1) ⟨h12_15, h13_15⟩ hF13 (by exact hv18_0) (by first | exact CO_s hv18_1 hv18_3 (by omega) | exact CO_n hv18_1 (by assumption)) (by exact hv18_2) (by first | assumption | omega) (by omega))
              · refine J_if_eqN (pc := 33) (tgt := 58) dX4_joinComing_33 (by decide) (by decide) (fun h => absurd h (by decide)) (fun _ => ?_)
                have hgo := (hy1 c4 (by omega)).2.1.1 c5 (by omega)
                refine J_aload_n (pc := 36) dX4_joinComing_36 rfl rfl rfl ?_
                refine J_iload (pc := 37) dX4_joinComing_37 rfl ?_
                refine J_aload_n (pc := 39) dX4_joinComing_39 rfl rfl rfl ?_
                refine J_iload (pc := 40) dX4_joinComing_40 rfl ?_
                refine J_ialdF (pc := 42) dX4_joinComing_42 h1_15 (by omega) (by decide) ?_
                refine J_iload (pc := 43) dX4_joinComing_43 rfl ?_
                refine J_callS0 (pc := 45) (M := mX4_joinComing) (as := [.int (nI (cm c4)), .int (nI c5)]) dX4_joinComing_45 fw_X2_goal fl_X4_33 fs_X2_goal rfl (c_X2_goal_atx hs (d := d - 1) (Nat.le_trans (by decide) hdm) (w := w11) (cm c4) c5 (by exact (hy1 c4 (by omega)).1) (by omega) (kc := 0) (ks := 0)) hdp (st := [.int (nI c5), .ref 12]) (Nat.le_of_ble_eq_true rfl) rfl (kr_P fun v19 hv19 => ?_) kx_I
                subst hv19
                have hq20 := d8_lt (cm c4) c5
                refine J_callV0 (pc := 48) (M := mX4_joinComing) (as := [.int (nI c5), .int (nI (d8 (cm c4) c5))]) dX4_joinComing_48 fw_X4_join fl_X4_36 fm_X4_join fe_X4_join h12_15 (by decide) rfl rfl rfl (c_X4_join_atx hs (d := d - 1) (Nat.le_trans (by decide) hdm) (w := w11) (po := po_18) (tn := n9) ⟨h12_15, h13_15⟩ c5 (d8 (cm c4) c5) (by omega) (by have := hgo; omega) (by exact hv18_0) (kc := 0) (ks := 0)) hdp (st := []) (Nat.le_of_ble_eq_true rfl) rfl (kr_I fun v21 w21 hv21 hw21 => ?_) kx_I
                obtain ⟨po21, hR21, hFc21, hp21_0⟩ := hw21
                obtain ⟨h12_21, h13_21⟩ := hR21
                have h1_21 := (hFc21.2 1 (by decide)).trans h1_15
                have hF21 := hF13.tr hFc21
                obtain ⟨hj1, hj2, hj3, hj4⟩ := PTi_j hv18_0 (by omega) (by omega) hp21_0
                rcases hv21 with ⟨rfl, hk21_0⟩ | ⟨rfl, hk21_0⟩
                · refine J_pop (pc := 51) dX4_joinComing_51 rfl ?_
                  refine J_iincN (pc := 52) (b := 1) dX4_joinComing_52 rfl (by decide) (by decide) rfl ?_
                  show J X mX4_joinComing d kc ks 55 [some (.ref 12), some (.ref 1), some (.int (nI s)), some (.int (nI n9)), some (.int (nI c4)), some (.int (nI (c5 + 1)))] [] w21 _
                  refine J_goto (pc := 55) (tgt := 18) dX4_joinComing_55 (by decide) ?_
                  exact J_sub (L' := [some (.ref 12), some (.ref 1), some (.int (nI s)), some (.int (nI n9)), some (.int (nI c4)), some (.int (nI (c5 + 1)))]) ⟨rfl, ⟨rfl, ⟨rfl, ⟨rfl, ⟨rfl, ⟨rfl, trivial⟩⟩⟩⟩⟩⟩ (ihlp18_10 w21 po21 (c5 + 1) ⟨h12_21, h13_21⟩ hF21 (by exact hj1) (by exact fun c p hc hs hp => hj2 _ _ (by omega) (by have := (hy1 c (by omega)).2.1.1 p hp; omega) (hv18_1 c p hc hs hp)) (by exact fun R hR hg => hj4 R hR (hv18_2 R hR hg) (hg c4 c5 (by omega) (by assumption) (by omega))) (by intro p hp; by_cases e : p = c5; (rw [e]; exact hj3); (exact hj2 _ _ (by omega) (by have := (hy1 c4 (by omega)).2.1.1 p (by omega); omega) (hv18_3 p (by omega)))) (by first | assumption | omega) (by omega))
                · refine J_pop (pc := 51) dX4_joinComing_51 rfl ?_
                  refine J_iincN (pc := 52) (b := 1) dX4_joinComing_52 rfl (by decide) (by decide) rfl ?_
                  show J X mX4_joinComing d kc ks 55 [some (.ref 12), some (.ref 1), some (.int (nI s)), some (.int (nI n9)), some (.int (nI c4)), some (.int (nI (c5 + 1)))] [] w21 _
                  refine J_goto (pc := 55) (tgt := 18) dX4_joinComing_55 (by decide) ?_
                  exact J_sub (L' := [some (.ref 12), some (.ref 1), some (.int (nI s)), some (.int (nI n9)), some (.int (nI c4)), some (.int (nI (c5 + 1)))]) ⟨rfl, ⟨rfl, ⟨rfl, ⟨rfl, ⟨rfl, ⟨rfl, trivial⟩⟩⟩⟩⟩⟩ (ihlp18_10 w21 po21 (c5 + 1) ⟨h12_21, h13_21⟩ hF21 (by exact hj1) (by exact fun c p hc hs hp => hj2 _ _ (by omega) (by have := (hy1 c (by omega)).2.1.1 p hp; omega) (hv18_1 c p hc hs hp)) (by exact fun R hR hg => hj4 R hR (hv18_2 R hR hg) (hg c4 c5 (by omega) (by assumption) (by omega))) (by intro p hp; by_cases e : p = c5; (rw [e]; exact hj3); (exact hj2 _ _ (by omega) (by have := (hy1 c4 (by omega)).2.1.1 p (by omega); omega) (hv18_3 p (by omega)))) (by first | assumption | omega) (by omega))
        exact J_sub (L' := [some (.ref 12), some (.ref 1), some (.int (nI s)), some (.int (nI n9)), some (.int (nI c4)), some (.int (nI 0))]) ⟨rfl, ⟨rfl, ⟨rfl, ⟨rfl, ⟨rfl, ⟨rfl, trivial⟩⟩⟩⟩⟩⟩ (lp18_10 _ w3 po_8 0 ⟨h12_7, h13_7⟩ hF5 (by exact hv8_0) (by exact hv8_1) (by exact hv8_2) (by intro p hp; omega) (by first | assumption | omega) (Nat.lt_succ_self _))
  exact J_sub (L' := [some (.ref 12), some (.ref 1), some (.int (nI s)), some (.int (nI n9)), some (.int (nI 0)), none]) ⟨rfl, ⟨rfl, ⟨rfl, ⟨rfl, ⟨rfl, trivial⟩⟩⟩⟩⟩ (lp8_2 _ w1 po1 0 ⟨h12_1, h13_1⟩ hF1 (by exact PTi_0 hp1_0) (by intro c p hc; omega) (by exact fun R hR _ p q hp _ e => by rw [PTi_e hp1_0 hp e]; exact hR.1 q) (by first | assumption | omega) (Nat.lt_succ_self _))
set_option maxRecDepth 100000 in
set_option maxHeartbeats 4000000 in
theorem c_X4_joinMoved_atx {X : jX} (hs : X.1.stackTraces = false) {d : Nat} (hd : 2 ≤ d) {po : Nat → Nat} {tn : Nat} {w : List jC} (hR : TM po tn w) (x : Nat) (hy0 : tn ≤ 7) (hy1 : Mv tn x) (hy2 : PT po) {kc ks : Nat} : jMet X mX4_joinMoved d kc ks [.ref 12, .int (nI x)] w (pI (fun v => ∃ y : Nat, v = nI y ∧ ((y = 0 ∧ JMv tn po x) ∨ (y = 1 ∧ ¬ JMv tn po x))) (fun w' => ∃ (po' : Nat → Nat), TM po' tn w' ∧ FB 12 13 w w' ∧ (PT po') ∧ (∀ p q, p < 8 → q < 8 → (po p).testBit q = true → (po' p).testBit q = true) ∧ (∀ R, EqR R → (∀ p q, p < tn → q < tn → R p q → R (d8 x p) (d8 x q)) → PU R po → PU R po') ∧ ((JMv tn po x ∧ po' = po) ∨ (¬ JMv tn po x ∧ NC po' tn < NC po tn)))) := by
  refine jMet_of hs (by decide +kernel) (Nat.le_of_ble_eq_true rfl) (L := [some (.ref 12), some (.int (nI x)), none, none, none]) rfl ?_
  have hdm : 1 ≤ d - 1 := by omega
  have hdp : d - 1 + 1 ≤ d := by omega
  obtain ⟨h12, h13⟩ := hR
  have hF : FB 12 13 w w := FB.rf
  refine J_iconst (pc := 0) (v := nI 0) dX4_joinMoved_0 (by decide) ?_
  refine J_istore_n (pc := 1) dX4_joinMoved_1 rfl (by decide) rfl ?_
  show J X mX4_joinMoved d kc ks 2 [some (.ref 12), some (.int (nI x)), some (.int (nI 0)), none, none] [] w _
  refine J_iconst (pc := 2) (v := nI 0) dX4_joinMoved_2 (by decide) ?_
  refine J_istore_n (pc := 3) dX4_joinMoved_3 rfl (by decide) rfl ?_
  show J X mX4_joinMoved d kc ks 4 [some (.ref 12), some (.int (nI x)), some (.int (nI 0)), some (.int (nI 0)), none] [] w _
  have lp4_1 : ∀ (fuel : Nat) (w2 : List jC) (po_4 : Nat → Nat) (y2 : Nat) (c3 : Nat), (TM po_4 tn w2) → (FB 12 13 w w2) → (PT po_4) → (JS tn po po_4 x c3 0 y2) → (∀ p q, p < 8 → q < 8 → (po p).testBit q = true → (po_4 p).testBit q = true) → (∀ R, EqR R → (∀ p q, p < tn → q < tn → R p q → R (d8 x p) (d8 x q)) → PU R po → PU R po_4) → (c3 ≤ tn) → (tn - c3 < fuel) → J X mX4_joinMoved d kc ks 4 [some (.ref 12), some (.int (nI x)), some (.int (nI y2)), some (.int (nI c3)), none] [] w2 (pI (fun v => ∃ y : Nat, v = nI y ∧ ((y = 0 ∧ JMv tn po x) ∨ (y = 1 ∧ ¬ JMv tn po x))) (fun w' => ∃ (po' : Nat → Nat), TM po' tn w' ∧ FB 12 13 w w' ∧ (PT po') ∧ (∀ p q, p < 8 → q < 8 → (po p).testBit q = true → (po' p).testBit q = true) ∧ (∀ R, EqR R → (∀ p q, p < tn → q < tn → R p q → R (d8 x p) (d8 x q)) → PU R po → PU R po') ∧ ((JMv tn po x ∧ po' = po) ∨ (¬ JMv tn po x ∧ NC po' tn < NC po tn)))) := by
    intro fuellp4_1
    induction fuellp4_1 with
    | zero => intros; omega
    | succ fuellp4_1 ihlp4_1 =>
      intro w2 po_4 y2 c3 hR3 hF4 hv4_0 hv4_1 hv4_2 hv4_3 hv4_4 hf5
      obtain ⟨h12_6, h13_6⟩ := hR3
      refine J_iload_n (pc := 4) dX4_joinMoved_4 rfl rfl ?_
      refine J_aload_n (pc := 5) dX4_joinMoved_5 rfl rfl rfl ?_
      refine J_get (pc := 6) (k := 1) dX4_joinMoved_6 kC5 (by decide) ff_X4_17 h12_6 rfl ?_
      refine J_icmp_geN (pc := 9) (tgt := 67) dX4_joinMoved_9 (by decide) (by omega) (by omega) (fun ht7 => ?_) (fun hf8 => ?_)
      · refine J_iload_n (pc := 67) dX4_joinMoved_67 rfl rfl ?_
        have hyv := JS_v hv4_1 (show tn ≤ c3 by omega)
        have hy2b : y2 < 2 := by rcases hyv with h | h <;> omega
        exact J_zret (pc := 68) dX4_joinMoved_68 rfl (nar_b (by first | decide | omega)) ⟨⟨y2, rfl, by exact JS_v hv4_1 (by omega)⟩, ⟨po_4, ⟨h12_6, h13_6⟩, hF4, (by exact hv4_0), (by exact hv4_2), (by exact hv4_3), (by exact JS_p hv4_1 (by omega))⟩⟩
      · refine J_iconst (pc := 12) (v := nI 0) dX4_joinMoved_12 (by decide) ?_
        refine J_istore (pc := 13) dX4_joinMoved_13 (by decide) rfl ?_
        show J X mX4_joinMoved d kc ks 15 [some (.ref 12), some (.int (nI x)), some (.int (nI y2)), some (.int (nI c3)), some (.int (nI 0))] [] w2 _
        have lp15_9 : ∀ (fuel : Nat) (w10 : List jC) (po_15 : Nat → Nat) (y2 : Nat) (c4 : Nat), (TM po_15 tn w10) → (FB 12 13 w w10) → (PT po_15) → (JS tn po po_15 x c3 c4 y2) → (∀ p q, p < 8 → q < 8 → (po p).testBit q = true → (po_15 p).testBit q = true) → (∀ R, EqR R → (∀ p q, p < tn → q < tn → R p q → R (d8 x p) (d8 x q)) → PU R po → PU R po_15) → (c4 ≤ c3) → (c3 - c4 < fuel) → J X mX4_joinMoved d kc ks 15 [some (.ref 12), some (.int (nI x)), some (.int (nI y2)), some (.int (nI c3)), some (.int (nI c4))] [] w10 (pI (fun v => ∃ y : Nat, v = nI y ∧ ((y = 0 ∧ JMv tn po x) ∨ (y = 1 ∧ ¬ JMv tn po x))) (fun w' => ∃ (po' : Nat → Nat), TM po' tn w' ∧ FB 12 13 w w' ∧ (PT po') ∧ (∀ p q, p < 8 → q < 8 → (po p).testBit q = true → (po' p).testBit q = true) ∧ (∀ R, EqR R → (∀ p q, p < tn → q < tn → R p q → R (d8 x p) (d8 x q)) → PU R po → PU R po') ∧ ((JMv tn po x ∧ po' = po) ∨ (¬ JMv tn po x ∧ NC po' tn < NC po tn)))) := by
          intro fuellp15_9
          induction fuellp15_9 with
          | zero => intros; omega
          | succ fuellp15_9 ihlp15_9 =>
            intro w10 po_15 y2 c4 hR11 hF12 hv15_0 hv15_1 hv15_2 hv15_3 hv15_4 hf13
            obtain ⟨h12_14, h13_14⟩ := hR11
            refine J_iload (pc := 15) dX4_joinMoved_15 rfl ?_
            refine J_iload_n (pc := 17) dX4_joinMoved_17 rfl rfl ?_
            refine J_icmp_geN (pc := 18) (tgt := 61) dX4_joinMoved_18 (by decide) (by omega) (by omega) (fun ht15 => ?_) (fun hf16 => ?_)
            · refine J_iincN (pc := 61) (b := 1) dX4_joinMoved_61 rfl (by decide) (by decide) rfl ?_
              show J X mX4_joinMoved d kc ks 64 [some (.ref 12), some (.int (nI x)), some (.int (nI y2)), some (.int (nI (c3 + 1))), some (.int (nI c4))] [] w10 _
              refine J_goto (pc := 64) (tgt := 4) dX4_joinMoved_64 (by decide) ?_
              exact J_sub (L' := [some (.ref 12), some (.int (nI x)), some (.int (nI y2)), some (.int (nI (c3 + 1))), none]) ⟨rfl, ⟨rfl, ⟨rfl, ⟨rfl, trivial⟩⟩⟩⟩ (ihlp4_1 w10 po_15 y2 (c3 + 1) ⟨h12_14, h13_14⟩ hF12 (by exact hv15_0) (by exact JS_out hv15_1 (by omega)) (by exact hv15_2) (by exact hv15_3) (by first | assumption | omega) (by omega))
            · refine J_aload_n (pc := 21) dX4_joinMoved_21 rfl rfl rfl ?_
              refine J_get (pc := 22) (k := 0) dX4_joinMoved_22 kC5 (by decide) ff_X4_11 h12_14 rfl ?_
              refine J_iload_n (pc := 25) dX4_joinMoved_25 rfl rfl ?_
              refine J_ialdF (pc := 26) dX4_joinMoved_26 h13_14 (by omega) (by decide) ?_
              refine J_iload (pc := 27) dX4_joinMoved_27 rfl ?_
              refine J_callSN0 (pc := 29) (M := mX4_joinMoved) (as := [.int (nI (po_15 c3)), .int (nI c4)]) dX4_joinMoved_29 fw_X6_has fl_X4_29 fs_X6_has rfl (c_X6_has_atx hs (d := d - 1) (Nat.le_trans (by decide) hdm) (w := w10) (po_15 c3) c4 (by have := hv15_0.1 c3 (by omega); omega) (by omega) (kc := 0) (ks := 0)) hdp (st := []) (Nat.le_of_ble_eq_true rfl) rfl (kr_P fun v17 hv17 => ?_) kx_I
              rcases hv17 with ⟨rfl, hk17_0⟩ | ⟨rfl, hk17_0⟩
              · refine J_if_eqN (pc := 32) (tgt := 55) dX4_joinMoved_32 (by decide) (by decide) (fun _ => ?_) (fun h => absurd h (by decide))
                refine J_iincN (pc := 55) (b := 1) dX4_joinMoved_55 rfl (by decide) (by decide) rfl ?_
                show J X mX4_joinMoved d kc ks 58 [some (.ref 12), some (.int (nI x)), some (.int (nI y2)), some (.int (nI c3)), some (.int (nI (c4 + 1)))] [] w10 _
                refine J_goto (pc := 58) (tgt := 15) dX4_joinMoved_58 (by decide) ?_
                exact J_sub (L' := [some (.ref 12), some (.int (nI x)), some (.int (nI y2)), some (.int (nI c3)), some (.int (nI (c4 + 1)))]) ⟨rfl, ⟨rfl, ⟨rfl, ⟨rfl, ⟨rfl, trivial⟩⟩⟩⟩⟩ (ihlp15_9 w10 po_15 y2 (c4 + 1) ⟨h12_14, h13_14⟩ hF12 (by first | exact hj1 | exact hv15_0) (by first | exact JS_keep hv15_1 hjp (by assumption) | exact JS_join hy0 hy1 hv15_0 (by omega) (by omega) hv15_1 (by assumption) hjp (by assumption) | exact JS_skip hv15_1 (by assumption)) (by first | exact fun p q hp hq h => hj2 p q hp hq (hv15_2 p q hp hq h) | exact hv15_2) (by first | exact fun R h1 h2 h3 => hj4 R h1 (hv15_3 R h1 h2 h3) (h2 c3 c4 (by omega) (by omega) (hv15_3 R h1 h2 h3 c3 c4 (by omega) (by omega) (by assumption))) | exact hv15_3) (by first | assumption | omega) (by omega))
              · refine J_if_eqN (pc := 32) (tgt := 55) dX4_joinMoved_32 (by decide) (by decide) (fun h => absurd h (by decide)) (fun _ => ?_)
                have hg1 := hy1.2.1.1 c3 (by omega)
                have hg2 := hy1.2.1.1 c4 (by omega)
                refine J_aload_n (pc := 35) dX4_joinMoved_35 rfl rfl rfl ?_
                refine J_iload_n (pc := 36) dX4_joinMoved_36 rfl rfl ?_
                refine J_iload_n (pc := 37) dX4_joinMoved_37 rfl rfl ?_
                refine J_callS0 (pc := 38) (M := mX4_joinMoved) (as := [.int (nI x), .int (nI c3)]) dX4_joinMoved_38 fw_X2_goal fl_X4_33 fs_X2_goal rfl (c_X2_goal_atx hs (d := d - 1) (Nat.le_trans (by decide) hdm) (w := w10) x c3 (by exact hy1.1) (by omega) (kc := 0) (ks := 0)) hdp (st := [.ref 12]) (Nat.le_of_ble_eq_true rfl) rfl (kr_P fun v18 hv18 => ?_) kx_I
                subst hv18
                have hq19 := d8_lt x c3
                refine J_iload_n (pc := 41) dX4_joinMoved_41 rfl rfl ?_
                refine J_iload (pc := 42) dX4_joinMoved_42 rfl ?_
                refine J_callS0 (pc := 44) (M := mX4_joinMoved) (as := [.int (nI x), .int (nI c4)]) dX4_joinMoved_44 fw_X2_goal fl_X4_33 fs_X2_goal rfl (c_X2_goal_atx hs (d := d - 1) (Nat.le_trans (by decide) hdm) (w := w10) x c4 (by exact hy1.1) (by omega) (kc := 0) (ks := 0)) hdp (st := [.int (nI (d8 x c3)), .ref 12]) (Nat.le_of_ble_eq_true rfl) rfl (kr_P fun v20 hv20 => ?_) kx_I
                subst hv20
                have hq21 := d8_lt x c4
                refine J_callV0 (pc := 47) (M := mX4_joinMoved) (as := [.int (nI (d8 x c3)), .int (nI (d8 x c4))]) dX4_joinMoved_47 fw_X4_join fl_X4_36 fm_X4_join fe_X4_join h12_14 (by decide) rfl rfl rfl (c_X4_join_atx hs (d := d - 1) (Nat.le_trans (by decide) hdm) (w := w10) (po := po_15) (tn := tn) ⟨h12_14, h13_14⟩ (d8 x c3) (d8 x c4) (by omega) (by omega) (by exact hv15_0) (kc := 0) (ks := 0)) hdp (st := []) (Nat.le_of_ble_eq_true rfl) rfl (kr_I fun v22 w22 hv22 hw22 => ?_) kx_I
                obtain ⟨po22, hR22, hFc22, hp22_0⟩ := hw22
                obtain ⟨h12_22, h13_22⟩ := hR22
                have hF22 := hF12.tr hFc22
                obtain ⟨hj1, hj2, hj3, hj4⟩ := PTi_j hv15_0 (by omega) (by omega) hp22_0
                have hjp := hp22_0
                rcases hv22 with ⟨rfl, hk22_0⟩ | ⟨rfl, hk22_0⟩
                · refine J_if_eqN (pc := 50) (tgt := 55) dX4_joinMoved_50 (by decide) (by decide) (fun _ => ?_) (fun h => absurd h (by decide))
                  refine J_iincN (pc := 55) (b := 1) dX4_joinMoved_55 rfl (by decide) (by decide) rfl ?_
                  show J X mX4_joinMoved d kc ks 58 [some (.ref 12), some (.int (nI x)), some (.int (nI y2)), some (.int (nI c3)), some (.int (nI (c4 + 1)))] [] w22 _
                  refine J_goto (pc := 58) (tgt := 15) dX4_joinMoved_58 (by decide) ?_
                  exact J_sub (L' := [some (.ref 12), some (.int (nI x)), some (.int (nI y2)), some (.int (nI c3)), some (.int (nI (c4 + 1)))]) ⟨rfl, ⟨rfl, ⟨rfl, ⟨rfl, ⟨rfl, trivial⟩⟩⟩⟩⟩ (ihlp15_9 w22 po22 y2 (c4 + 1) ⟨h12_22, h13_22⟩ hF22 (by first | exact hj1 | exact hv15_0) (by first | exact JS_keep hv15_1 hjp (by assumption) | exact JS_join hy0 hy1 hv15_0 (by omega) (by omega) hv15_1 (by assumption) hjp (by assumption) | exact JS_skip hv15_1 (by assumption)) (by first | exact fun p q hp hq h => hj2 p q hp hq (hv15_2 p q hp hq h) | exact hv15_2) (by first | exact fun R h1 h2 h3 => hj4 R h1 (hv15_3 R h1 h2 h3) (h2 c3 c4 (by omega) (by omega) (hv15_3 R h1 h2 h3 c3 c4 (by omega) (by omega) (by assumption))) | exact hv15_3) (by first | assumption | omega) (by omega))
                · refine J_if_eqN (pc := 50) (tgt := 55) dX4_joinMoved_50 (by decide) (by decide) (fun h => absurd h (by decide)) (fun _ => ?_)
                  refine J_iconst (pc := 53) (v := nI 1) dX4_joinMoved_53 (by decide) ?_
                  refine J_istore_n (pc := 54) dX4_joinMoved_54 rfl (by decide) rfl ?_
                  show J X mX4_joinMoved d kc ks 55 [some (.ref 12), some (.int (nI x)), some (.int (nI 1)), some (.int (nI c3)), some (.int (nI c4))] [] w22 _
                  refine J_iincN (pc := 55) (b := 1) dX4_joinMoved_55 rfl (by decide) (by decide) rfl ?_
                  show J X mX4_joinMoved d kc ks 58 [some (.ref 12), some (.int (nI x)), some (.int (nI 1)), some (.int (nI c3)), some (.int (nI (c4 + 1)))] [] w22 _
                  refine J_goto (pc := 58) (tgt := 15) dX4_joinMoved_58 (by decide) ?_
                  exact J_sub (L' := [some (.ref 12), some (.int (nI x)), some (.int (nI 1)), some (.int (nI c3)), some (.int (nI (c4 + 1)))]) ⟨rfl, ⟨rfl, ⟨rfl, ⟨rfl, ⟨rfl, trivial⟩⟩⟩⟩⟩ (ihlp15_9 w22 po22 1 (c4 + 1) ⟨h12_22, h13_22⟩ hF22 (by first | exact hj1 | exact hv15_0) (by first | exact JS_keep hv15_1 hjp (by assumption) | exact JS_join hy0 hy1 hv15_0 (by omega) (by omega) hv15_1 (by assumption) hjp (by assumption) | exact JS_skip hv15_1 (by assumption)) (by first | exact fun p q hp hq h => hj2 p q hp hq (hv15_2 p q hp hq h) | exact hv15_2) (by first | exact fun R h1 h2 h3 => hj4 R h1 (hv15_3 R h1 h2 h3) (h2 c3 c4 (by omega) (by omega) (hv15_3 R h1 h2 h3 c3 c4 (by omega) (by omega) (by assumption))) | exact hv15_3) (by first | assumption | omega) (by omega))
        exact J_sub (L' := [some (.ref 12), some (.int (nI x)), some (.int (nI y2)), some (.int (nI c3)), some (.int (nI 0))]) ⟨rfl, ⟨rfl, ⟨rfl, ⟨rfl, ⟨rfl, trivial⟩⟩⟩⟩⟩ (lp15_9 _ w2 po_4 y2 0 ⟨h12_6, h13_6⟩ hF4 (by exact hv4_0) (by exact hv4_1) (by exact hv4_2) (by exact hv4_3) (by first | assumption | omega) (Nat.lt_succ_self _))
  exact J_sub (L' := [some (.ref 12), some (.int (nI x)), some (.int (nI 0)), some (.int (nI 0)), none]) ⟨rfl, ⟨rfl, ⟨rfl, ⟨rfl, trivial⟩⟩⟩⟩ (lp4_1 _ w po 0 0 ⟨h12, h13⟩ hF (by exact hy2) (by exact JS_0) (by exact fun _ _ _ _ h => h) (by exact fun _ _ _ h => h) (by first | assumption | omega) (Nat.lt_succ_self _))
set_option maxRecDepth 100000 in
set_option maxHeartbeats 4000000 in
theorem c_X4_joinBlocks_atx {X : jX} (hs : X.1.stackTraces = false) {d : Nat} (hd : 3 ≤ d) {po : Nat → Nat} {tn : Nat} {w : List jC} (hR : TM po tn w) {cm : Nat → Nat} (h1 : w[1]? = some (aF 6 cm)) (s : Nat) (a : Nat) (b : Nat) (n9 : Nat) (hy0 : n9 ≤ 7) (hy1 : ∀ c, c < 6 → Mv n9 (cm c)) (hy2 : s < 64) (hy3 : a < n9) (hy4 : b < n9) {kc ks : Nat} : jMet X mX4_joinBlocks d kc ks [.ref 12, .ref 1, .int (nI s), .int (nI a), .int (nI b), .int (nI n9)] w (pV (fun w' => ∃ (po' : Nat → Nat), TM po' n9 w' ∧ FB 12 13 w w' ∧ (PT po') ∧ ((po' a).testBit b = true) ∧ (∀ c, c < 6 → s.testBit c = true → JMv n9 po' (cm c)) ∧ (∀ R, EqR R → R a b → (∀ x y c, x < n9 → y < n9 → c < 6 → s.testBit c = true → R x y → R (d8 (cm c) x) (d8 (cm c) y)) → PU R po'))) := by
  refine jMet_of hs (by decide +kernel) (Nat.le_of_ble_eq_true rfl) (L := [some (.ref 12), some (.ref 1), some (.int (nI s)), some (.int (nI a)), some (.int (nI b)), some (.int (nI n9)), none, none, none]) rfl ?_
  have hdm : 2 ≤ d - 1 := by omega
  have hdp : d - 1 + 1 ≤ d := by omega
  obtain ⟨h12, h13⟩ := hR
  have hF : FB 12 13 w w := FB.rf
  refine J_aload_n (pc := 0) dX4_joinBlocks_0 rfl rfl rfl ?_
  refine J_iload (pc := 1) dX4_joinBlocks_1 rfl ?_
  refine J_callV0 (pc := 3) (M := mX4_joinBlocks) (as := [.int (nI n9)]) dX4_joinBlocks_3 fw_X4_separate fl_X4_25 fm_X4_separate fe_X4_separate h12 (by decide) rfl rfl rfl (c_X4_separate_atx hs (d := d - 1) (Nat.le_trans (by decide) hdm) (w := w) (po := po) (tn := tn) ⟨h12, h13⟩ n9 (kc := 0) (ks := 0)) hdp (st := []) (Nat.le_of_ble_eq_true rfl) rfl (kr_V fun w1 hw1 => ?_) kx_V
  obtain ⟨po1, hR1, hFc1, hp1_0⟩ := hw1
  obtain ⟨h12_1, h13_1⟩ := hR1
  have h1_1 := (hFc1.2 1 (by decide)).trans h1
  have hF1 := hF.tr hFc1
  have hsep := hp1_0
  refine J_aload_n (pc := 6) dX4_joinBlocks_6 rfl rfl rfl ?_
  refine J_iload_n (pc := 7) dX4_joinBlocks_7 rfl rfl ?_
  refine J_iload (pc := 8) dX4_joinBlocks_8 rfl ?_
  refine J_callV0 (pc := 10) (M := mX4_joinBlocks) (as := [.int (nI a), .int (nI b)]) dX4_joinBlocks_10 fw_X4_join fl_X4_36 fm_X4_join fe_X4_join h12_1 (by decide) rfl rfl rfl (c_X4_join_atx hs (d := d - 1) (Nat.le_trans (by decide) hdm) (w := w1) (po := po1) (tn := n9) ⟨h12_1, h13_1⟩ a b (by omega) (by omega) (by exact PTi_0 hsep) (kc := 0) (ks := 0)) hdp (st := []) (Nat.le_of_ble_eq_true rfl) rfl (kr_I fun v2 w2 hv2 hw2 => ?_) kx_I
  obtain ⟨po2, hR2, hFc2, hp2_0⟩ := hw2
  obtain ⟨h12_2, h13_2⟩ := hR2
  have h1_2 := (hFc2.2 1 (by decide)).trans h1_1
  have hF2 := hF1.tr hFc2
  have hjp := hp2_0
  obtain ⟨hj1, hj2, hj3, hj4⟩ := PTi_j (PTi_0 hsep) (by omega) (by omega) hp2_0
  rcases hv2 with ⟨rfl, hk2_0⟩ | ⟨rfl, hk2_0⟩
  · refine J_istore (pc := 13) dX4_joinBlocks_13 (by decide) rfl ?_
    show J X mX4_joinBlocks d kc ks 15 [some (.ref 12), some (.ref 1), some (.int (nI s)), some (.int (nI a)), some (.int (nI b)), some (.int (nI n9)), some (.int (nI 0)), none, none] [] w2 _
    refine J_iconst (pc := 15) (v := nI 0) dX4_joinBlocks_15 (by decide) ?_
    refine J_istore (pc := 16) dX4_joinBlocks_16 (by decide) rfl ?_
    show J X mX4_joinBlocks d kc ks 18 [some (.ref 12), some (.ref 1), some (.int (nI s)), some (.int (nI a)), some (.int (nI b)), some (.int (nI n9)), some (.int (nI 0)), some (.int (nI 0)), none] [] w2 _
    have lp18_3 : ∀ (fuel : Nat) (w4 : List jC) (po_18 : Nat → Nat) (y6 : Nat) (c7 : Nat), (TM po_18 n9 w4) → (FB 12 13 w w4) → (PT po_18) → ((po_18 a).testBit b = true) → (∀ R, EqR R → R a b → (∀ x y c, x < n9 → y < n9 → c < 6 → s.testBit c = true → R x y → R (d8 (cm c) x) (d8 (cm c) y)) → PU R po_18) → (JB n9 s cm po_18 y6 c7) → (c7 ≤ 7) → (y6 < 2) → (7 - c7 < fuel) → J X mX4_joinBlocks d kc ks 18 [some (.ref 12), some (.ref 1), some (.int (nI s)), some (.int (nI a)), some (.int (nI b)), some (.int (nI n9)), some (.int (nI y6)), some (.int (nI c7)), none] [] w4 (pV (fun w' => ∃ (po' : Nat → Nat), TM po' n9 w' ∧ FB 12 13 w w' ∧ (PT po') ∧ ((po' a).testBit b = true) ∧ (∀ c, c < 6 → s.testBit c = true → JMv n9 po' (cm c)) ∧ (∀ R, EqR R → R a b → (∀ x y c, x < n9 → y < n9 → c < 6 → s.testBit c = true → R x y → R (d8 (cm c) x) (d8 (cm c) y)) → PU R po'))) := by
      intro fuellp18_3
      induction fuellp18_3 with
      | zero => intros; omega
      | succ fuellp18_3 ihlp18_3 =>
        intro w4 po_18 y6 c7 hR5 hF6 hv18_0 hv18_1 hv18_2 hv18_3 hv18_4 hv18_5 hf7
        obtain ⟨h12_8, h13_8⟩ := hR5
        have h1_8 := (hF6.2 1 (by decide)).trans h1
        refine J_iload (pc := 18) dX4_joinBlocks_18 rfl ?_
        refine J_bipush (pc := 20) (v := nI 7) dX4_joinBlocks_20 (by decide) ?_
        refine J_icmp_geN (pc := 22) (tgt := 78) dX4_joinBlocks_22 (by decide) (by omega) (by omega) (fun ht9 => ?_) (fun hf10 => ?_)
        · exact J_vret (pc := 78) dX4_joinBlocks_78 rfl (⟨po_18, ⟨h12_8, h13_8⟩, hF6, (by exact hv18_0), (by exact hv18_1), (by exact JB_end hy0 (by omega) hv18_0 hv18_3 (by omega)), (by exact hv18_2)⟩)
        · refine J_iload (pc := 25) dX4_joinBlocks_25 rfl ?_
          refine J_if_eqN (pc := 27) (tgt := 78) dX4_joinBlocks_27 (by decide) (by omega) (fun ht11 => ?_) (fun hf12 => ?_)
          · exact J_vret (pc := 78) dX4_joinBlocks_78 rfl (⟨po_18, ⟨h12_8, h13_8⟩, hF6, (by exact hv18_0), (by exact hv18_1), (by exact JB_end hy0 (by omega) hv18_0 hv18_3 (by omega)), (by exact hv18_2)⟩)
          · refine J_iconst (pc := 30) (v := nI 0) dX4_joinBlocks_30 (by decide) ?_
            refine J_istore (pc := 31) dX4_joinBlocks_31 (by decide) rfl ?_
            show J X mX4_joinBlocks d kc ks 33 [some (.ref 12), some (.ref 1), some (.int (nI s)), some (.int (nI a)), some (.int (nI b)), some (.int (nI n9)), some (.int (nI 0)), some (.int (nI c7)), none] [] w4 _
            refine J_iconst (pc := 33) (v := nI 0) dX4_joinBlocks_33 (by decide) ?_
            refine J_istore (pc := 34) dX4_joinBlocks_34 (by decide) rfl ?_
            show J X mX4_joinBlocks d kc ks 36 [some (.ref 12), some (.ref 1), some (.int (nI s)), some (.int (nI a)), some (.int (nI b)), some (.int (nI n9)), some (.int (nI 0)), some (.int (nI c7)), some (.int (nI 0))] [] w4 _
            have lp36_13 : ∀ (fuel : Nat) (w14 : List jC) (po_36 : Nat → Nat) (z6 : Nat) (c8 : Nat), (TM po_36 n9 w14) → (FB 12 13 w w14) → (PT po_36) → ((po_36 a).testBit b = true) → (∀ R, EqR R → R a b → (∀ x y c, x < n9 → y < n9 → c < 6 → s.testBit c = true → R x y → R (d8 (cm c) x) (d8 (cm c) y)) → PU R po_36) → (JC n9 s cm po_36 z6 c8 c7) → (c8 ≤ 6) → (z6 < 2) → (6 - c8 < fuel) → J X mX4_joinBlocks d kc ks 36 [some (.ref 12), some (.ref 1), some (.int (nI s)), some (.int (nI a)), some (.int (nI b)), some (.int (nI n9)), some (.int (nI z6)), some (.int (nI c7)), some (.int (nI c8))] [] w14 (pV (fun w' => ∃ (po' : Nat → Nat), TM po' n9 w' ∧ FB 12 13 w w' ∧ (PT po') ∧ ((po' a).testBit b = true) ∧ (∀ c, c < 6 → s.testBit c = true → JMv n9 po' (cm c)) ∧ (∀ R, EqR R → R a b → (∀ x y c, x < n9 → y < n9 → c < 6 → s.testBit c = true → R x y → R (d8 (cm c) x) (d8 (cm c) y)) → PU R po'))) := by
              intro fuellp36_13
              induction fuellp36_13 with
              | zero => intros; omega
              | succ fuellp36_13 ihlp36_13 =>
                intro w14 po_36 z6 c8 hR15 hF16 hv36_0 hv36_1 hv36_2 hv36_3 hv36_4 hv36_5 hf17
                obtain ⟨h12_18, h13_18⟩ := hR15
                have h1_18 := (hF16.2 1 (by decide)).trans h1
                refine J_iload (pc := 36) dX4_joinBlocks_36 rfl ?_
                refine J_aload_n (pc := 38) dX4_joinBlocks_38 rfl rfl rfl ?_
                refine J_alen (pc := 39) (n := nI 6) dX4_joinBlocks_39 h1_18 (by decide) (by rw [List.length_map, List.length_range]; rfl) ?_
                refine J_icmp_geN (pc := 40) (tgt := 72) dX4_joinBlocks_40 (by decide) (by omega) (by omega) (fun ht19 => ?_) (fun hf20 => ?_)
                · refine J_iincN (pc := 72) (b := 1) dX4_joinBlocks_72 rfl (by decide) (by decide) rfl ?_
                  show J X mX4_joinBlocks d kc ks 75 [some (.ref 12), some (.ref 1), some (.int (nI s)), some (.int (nI a)), some (.int (nI b)), some (.int (nI n9)), some (.int (nI z6)), some (.int (nI (c7 + 1))), some (.int (nI c8))] [] w14 _
                  refine J_goto (pc := 75) (tgt := 18) dX4_joinBlocks_75 (by decide) ?_
                  exact J_sub (L' := [some (.ref 12), some (.ref 1), some (.int (nI s)), some (.int (nI a)), some (.int (nI b)), some (.int (nI n9)), some (.int (nI z6)), some (.int (nI (c7 + 1))), none]) ⟨rfl, ⟨rfl, ⟨rfl, ⟨rfl, ⟨rfl, ⟨rfl, ⟨rfl, ⟨rfl, trivial⟩⟩⟩⟩⟩⟩⟩⟩ (ihlp18_3 w14 po_36 z6 (c7 + 1) ⟨h12_18, h13_18⟩ hF16 (by exact hv36_0) (by exact hv36_1) (by exact hv36_2) (by exact JB_s hv36_3 (by omega)) (by first | assumption | omega) (by first | assumption | omega) (by omega))
                · refine J_iload_n (pc := 43) dX4_joinBlocks_43 rfl rfl ?_
                  refine J_iload (pc := 44) dX4_joinBlocks_44 rfl ?_
                  refine J_callSN0 (pc := 46) (M := mX4_joinBlocks) (as := [.int (nI s), .int (nI c8)]) dX4_joinBlocks_46 fw_X6_has fl_X4_29 fs_X6_has rfl (c_X6_has_atx hs (d := d - 1) (Nat.le_trans (by decide) hdm) (w := w14) s c8 (by omega) (by omega) (kc := 0) (ks := 0)) hdp (st := []) (Nat.le_of_ble_eq_true rfl) rfl (kr_P fun v21 hv21 => ?_) kx_I
                  rcases hv21 with ⟨rfl, hk21_0⟩ | ⟨rfl, hk21_0⟩
                  · refine J_if_eqN (pc := 49) (tgt := 66) dX4_joinBlocks_49 (by decide) (by decide) (fun _ => ?_) (fun h => absurd h (by decide))
                    refine J_iincN (pc := 66) (b := 1) dX4_joinBlocks_66 rfl (by decide) (by decide) rfl ?_
                    show J X mX4_joinBlocks d kc ks 69 [some (.ref 12), some (.ref 1), some (.int (nI s)), some (.int (nI a)), some (.int (nI b)), some (.int (nI n9)), some (.int (nI z6)), some (.int (nI c7)), some (.int (nI (c8 + 1)))] [] w14 _
                    refine J_goto (pc := 69) (tgt := 36) dX4_joinBlocks_69 (by decide) ?_
                    exact J_sub (L' := [some (.ref 12), some (.ref 1), some (.int (nI s)), some (.int (nI a)), some (.int (nI b)), some (.int (nI n9)), some (.int (nI z6)), some (.int (nI c7)), some (.int (nI (c8 + 1)))]) ⟨rfl, ⟨rfl, ⟨rfl, ⟨rfl, ⟨rfl, ⟨rfl, ⟨rfl, ⟨rfl, ⟨rfl, trivial⟩⟩⟩⟩⟩⟩⟩⟩⟩ (ihlp36_13 w14 po_36 z6 (c8 + 1) ⟨h12_18, h13_18⟩ hF16 (by first | exact hm0 | exact hv36_0) (by first | exact hm1 _ _ (by omega) (by omega) hv36_1 | exact hv36_1) (by first | exact fun R h1 h2 h3 => hm2 R h1 (fun p q hp hq e => h3 p q c8 hp hq (by omega) (by assumption) e) (hv36_2 R h1 h2 h3) | exact hv36_2) (by first | exact JC_k hv36_3 (hkj.elim (fun h => h.2) (fun h => absurd h.1 (by omega))) hm3 | exact JC_1 hv36_3 (hkj.elim (fun h => absurd h.1 (by omega)) (fun h => h.2)) hm3 | exact JC_n hv36_3 (by assumption)) (by first | assumption | omega) (by first | assumption | omega) (by omega))
                  · refine J_if_eqN (pc := 49) (tgt := 66) dX4_joinBlocks_49 (by decide) (by decide) (fun h => absurd h (by decide)) (fun _ => ?_)
                    refine J_aload_n (pc := 52) dX4_joinBlocks_52 rfl rfl rfl ?_
                    refine J_aload_n (pc := 53) dX4_joinBlocks_53 rfl rfl rfl ?_
                    refine J_iload (pc := 54) dX4_joinBlocks_54 rfl ?_
                    refine J_ialdF (pc := 56) dX4_joinBlocks_56 h1_18 (by omega) (by decide) ?_
                    refine J_callV0 (pc := 57) (M := mX4_joinBlocks) (as := [.int (nI (cm c8))]) dX4_joinBlocks_57 fw_X4_joinMoved fl_X4_39 fm_X4_joinMoved fe_X4_joinMoved h12_18 (by decide) rfl rfl rfl (c_X4_joinMoved_atx hs (d := d - 1) (Nat.le_trans (by decide) hdm) (w := w14) (po := po_36) (tn := n9) ⟨h12_18, h13_18⟩ (cm c8) (by exact hy0) (by exact hy1 c8 (by omega)) (by exact hv36_0) (kc := 0) (ks := 0)) hdp (st := []) (Nat.le_of_ble_eq_true rfl) rfl (kr_I fun v22 w22 hv22 hw22 => ?_) kx_I
                    obtain ⟨po22, hR22, hFc22, hp22_0, hp22_1, hp22_2, hp22_3⟩ := hw22
                    obtain ⟨h12_22, h13_22⟩ := hR22
                    have h1_22 := (hFc22.2 1 (by decide)).trans h1_18
                    have hF22 := hF16.tr hFc22
                    obtain ⟨k22, rfl, hk22⟩ := hv22
                    have hm0 := hp22_0
                    have hm1 := hp22_1
                    have hm2 := hp22_2
                    have hm3 := hp22_3
                    have hkj := hk22
                    refine J_if_eqN (pc := 60) (tgt := 66) dX4_joinBlocks_60 (by decide) (by omega) (fun ht23 => ?_) (fun hf24 => ?_)
                    · refine J_iincN (pc := 66) (b := 1) dX4_joinBlocks_66 rfl (by decide) (by decide) rfl ?_
                      show J X mX4_joinBlocks d kc ks 69 [some (.ref 12), some (.ref 1), some (.int (nI s)), some (.int (nI a)), some (.int (nI b)), some (.int (nI n9)), some (.int (nI z6)), some (.int (nI c7)), some (.int (nI (c8 + 1)))] [] w22 _
                      refine J_goto (pc := 69) (tgt := 36) dX4_joinBlocks_69 (by decide) ?_
                      exact J_sub (L' := [some (.ref 12), some (.ref 1), some (.int (nI s)), some (.int (nI a)), some (.int (nI b)), some (.int (nI n9)), some (.int (nI z6)), some (.int (nI c7)), some (.int (nI (c8 + 1)))]) ⟨rfl, ⟨rfl, ⟨rfl, ⟨rfl, ⟨rfl, ⟨rfl, ⟨rfl, ⟨rfl, ⟨rfl, trivial⟩⟩⟩⟩⟩⟩⟩⟩⟩ (ihlp36_13 w22 po22 z6 (c8 + 1) ⟨h12_22, h13_22⟩ hF22 (by first | exact hm0 | exact hv36_0) (by first | exact hm1 _ _ (by omega) (by omega) hv36_1 | exact hv36_1) (by first | exact fun R h1 h2 h3 => hm2 R h1 (fun p q hp hq e => h3 p q c8 hp hq (by omega) (by assumption) e) (hv36_2 R h1 h2 h3) | exact hv36_2) (by first | exact JC_k hv36_3 (hkj.elim (fun h => h.2) (fun h => absurd h.1 (by omega))) hm3 | exact JC_1 hv36_3 (hkj.elim (fun h => absurd h.1 (by omega)) (fun h => h.2)) hm3 | exact JC_n hv36_3 (by assumption)) (by first | assumption | omega) (by first | assumption | omega) (by omega))
                    · refine J_iconst (pc := 63) (v := nI 1) dX4_joinBlocks_63 (by decide) ?_
                      refine J_istore (pc := 64) dX4_joinBlocks_64 (by decide) rfl ?_
                      show J X mX4_joinBlocks d kc ks 66 [some (.ref 12), some (.ref 1), some (.int (nI s)), some (.int (nI a)), some (.int (nI b)), some (.int (nI n9)), some (.int (nI 1)), some (.int (nI c7)), some (.int (nI c8))] [] w22 _
                      refine J_iincN (pc := 66) (b := 1) dX4_joinBlocks_66 rfl (by decide) (by decide) rfl ?_
                      show J X mX4_joinBlocks d kc ks 69 [some (.ref 12), some (.ref 1), some (.int (nI s)), some (.int (nI a)), some (.int (nI b)), some (.int (nI n9)), some (.int (nI 1)), some (.int (nI c7)), some (.int (nI (c8 + 1)))] [] w22 _
                      refine J_goto (pc := 69) (tgt := 36) dX4_joinBlocks_69 (by decide) ?_
                      exact J_sub (L' := [some (.ref 12), some (.ref 1), some (.int (nI s)), some (.int (nI a)), some (.int (nI b)), some (.int (nI n9)), some (.int (nI 1)), some (.int (nI c7)), some (.int (nI (c8 + 1)))]) ⟨rfl, ⟨rfl, ⟨rfl, ⟨rfl, ⟨rfl, ⟨rfl, ⟨rfl, ⟨rfl, ⟨rfl, trivial⟩⟩⟩⟩⟩⟩⟩⟩⟩ (ihlp36_13 w22 po22 1 (c8 + 1) ⟨h12_22, h13_22⟩ hF22 (by first | exact hm0 | exact hv36_0) (by first | exact hm1 _ _ (by omega) (by omega) hv36_1 | exact hv36_1) (by first | exact fun R h1 h2 h3 => hm2 R h1 (fun p q hp hq e => h3 p q c8 hp hq (by omega) (by assumption) e) (hv36_2 R h1 h2 h3) | exact hv36_2) (by first | exact JC_k hv36_3 (hkj.elim (fun h => h.2) (fun h => absurd h.1 (by omega))) hm3 | exact JC_1 hv36_3 (hkj.elim (fun h => absurd h.1 (by omega)) (fun h => h.2)) hm3 | exact JC_n hv36_3 (by assumption)) (by first | assumption | omega) (by first | assumption | omega) (by omega))
            exact J_sub (L' := [some (.ref 12), some (.ref 1), some (.int (nI s)), some (.int (nI a)), some (.int (nI b)), some (.int (nI n9)), some (.int (nI 0)), some (.int (nI c7)), some (.int (nI 0))]) ⟨rfl, ⟨rfl, ⟨rfl, ⟨rfl, ⟨rfl, ⟨rfl, ⟨rfl, ⟨rfl, ⟨rfl, trivial⟩⟩⟩⟩⟩⟩⟩⟩⟩ (lp36_13 _ w4 po_18 0 0 ⟨h12_8, h13_8⟩ hF6 (by exact hv18_0) (by exact hv18_1) (by exact hv18_2) (by exact JC_0 hv18_3 (by assumption)) (by first | assumption | omega) (by first | assumption | omega) (Nat.lt_succ_self _))
    exact J_sub (L' := [some (.ref 12), some (.ref 1), some (.int (nI s)), some (.int (nI a)), some (.int (nI b)), some (.int (nI n9)), some (.int (nI 0)), some (.int (nI 0)), none]) ⟨rfl, ⟨rfl, ⟨rfl, ⟨rfl, ⟨rfl, ⟨rfl, ⟨rfl, ⟨rfl, trivial⟩⟩⟩⟩⟩⟩⟩⟩ (lp18_3 _ w2 po2 0 0 ⟨h12_2, h13_2⟩ hF2 (by exact hj1) (by exact hj3) (by exact fun R h1 h2 _ => hj4 R h1 (fun p q hp _ e => by rw [PTi_e hsep hp e]; exact h1.1 q) h2) (by first | exact Or.inl ⟨rfl, by rw [JP_same hjp (by assumption)]; exact JB_0 hsep hy0⟩ | exact JB_1 hsep hy0 (by omega) (by omega) hjp (by assumption)) (by first | assumption | omega) (by first | assumption | omega) (Nat.lt_succ_self _))
  · refine J_istore (pc := 13) dX4_joinBlocks_13 (by decide) rfl ?_
    show J X mX4_joinBlocks d kc ks 15 [some (.ref 12), some (.ref 1), some (.int (nI s)), some (.int (nI a)), some (.int (nI b)), some (.int (nI n9)), some (.int (nI 1)), none, none] [] w2 _
    refine J_iconst (pc := 15) (v := nI 0) dX4_joinBlocks_15 (by decide) ?_
    refine J_istore (pc := 16) dX4_joinBlocks_16 (by decide) rfl ?_
    show J X mX4_joinBlocks d kc ks 18 [some (.ref 12), some (.ref 1), some (.int (nI s)), some (.int (nI a)), some (.int (nI b)), some (.int (nI n9)), some (.int (nI 1)), some (.int (nI 0)), none] [] w2 _
    have lp18_25 : ∀ (fuel : Nat) (w26 : List jC) (po_18 : Nat → Nat) (y6 : Nat) (c7 : Nat), (TM po_18 n9 w26) → (FB 12 13 w w26) → (PT po_18) → ((po_18 a).testBit b = true) → (∀ R, EqR R → R a b → (∀ x y c, x < n9 → y < n9 → c < 6 → s.testBit c = true → R x y → R (d8 (cm c) x) (d8 (cm c) y)) → PU R po_18) → (JB n9 s cm po_18 y6 c7) → (c7 ≤ 7) → (y6 < 2) → (7 - c7 < fuel) → J X mX4_joinBlocks d kc ks 18 [some (.ref 12), some (.ref 1), some (.int (nI s)), some (.int (nI a)), some (.int (nI b)), some (.int (nI n9)), some (.int (nI y6)), some (.int (nI c7)), none] [] w26 (pV (fun w' => ∃ (po' : Nat → Nat), TM po' n9 w' ∧ FB 12 13 w w' ∧ (PT po') ∧ ((po' a).testBit b = true) ∧ (∀ c, c < 6 → s.testBit c = true → JMv n9 po' (cm c)) ∧ (∀ R, EqR R → R a b → (∀ x y c, x < n9 → y < n9 → c < 6 → s.testBit c = true → R x y → R (d8 (cm c) x) (d8 (cm c) y)) → PU R po'))) := by
      intro fuellp18_25
      induction fuellp18_25 with
      | zero => intros; omega
      | succ fuellp18_25 ihlp18_25 =>
        intro w26 po_18 y6 c7 hR27 hF28 hv18_0 hv18_1 hv18_2 hv18_3 hv18_4 hv18_5 hf29
        obtain ⟨h12_30, h13_30⟩ := hR27
        have h1_30 := (hF28.2 1 (by decide)).trans h1
        refine J_iload (pc := 18) dX4_joinBlocks_18 rfl ?_
        refine J_bipush (pc := 20) (v := nI 7) dX4_joinBlocks_20 (by decide) ?_
        refine J_icmp_geN (pc := 22) (tgt := 78) dX4_joinBlocks_22 (by decide) (by omega) (by omega) (fun ht31 => ?_) (fun hf32 => ?_)
        · exact J_vret (pc := 78) dX4_joinBlocks_78 rfl (⟨po_18, ⟨h12_30, h13_30⟩, hF28, (by exact hv18_0), (by exact hv18_1), (by exact JB_end hy0 (by omega) hv18_0 hv18_3 (by omega)), (by exact hv18_2)⟩)
        · refine J_iload (pc := 25) dX4_joinBlocks_25 rfl ?_
          refine J_if_eqN (pc := 27) (tgt := 78) dX4_joinBlocks_27 (by decide) (by omega) (fun ht33 => ?_) (fun hf34 => ?_)
          · exact J_vret (pc := 78) dX4_joinBlocks_78 rfl (⟨po_18, ⟨h12_30, h13_30⟩, hF28, (by exact hv18_0), (by exact hv18_1), (by exact JB_end hy0 (by omega) hv18_0 hv18_3 (by omega)), (by exact hv18_2)⟩)
          · refine J_iconst (pc := 30) (v := nI 0) dX4_joinBlocks_30 (by decide) ?_
            refine J_istore (pc := 31) dX4_joinBlocks_31 (by decide) rfl ?_
            show J X mX4_joinBlocks d kc ks 33 [some (.ref 12), some (.ref 1), some (.int (nI s)), some (.int (nI a)), some (.int (nI b)), some (.int (nI n9)), some (.int (nI 0)), some (.int (nI c7)), none] [] w26 _
            refine J_iconst (pc := 33) (v := nI 0) dX4_joinBlocks_33 (by decide) ?_
            refine J_istore (pc := 34) dX4_joinBlocks_34 (by decide) rfl ?_
            show J X mX4_joinBlocks d kc ks 36 [some (.ref 12), some (.ref 1), some (.int (nI s)), some (.int (nI a)), some (.int (nI b)), some (.int (nI n9)), some (.int (nI 0)), some (.int (nI c7)), some (.int (nI 0))] [] w26 _
            have lp36_35 : ∀ (fuel : Nat) (w36 : List jC) (po_36 : Nat → Nat) (z6 : Nat) (c8 : Nat), (TM po_36 n9 w36) → (FB 12 13 w w36) → (PT po_36) → ((po_36 a).testBit b = true) → (∀ R, EqR R → R a b → (∀ x y c, x < n9 → y < n9 → c < 6 → s.testBit c = true → R x y → R (d8 (cm c) x) (d8 (cm c) y)) → PU R po_36) → (JC n9 s cm po_36 z6 c8 c7) → (c8 ≤ 6) → (z6 < 2) → (6 - c8 < fuel) → J X mX4_joinBlocks d kc ks 36 [some (.ref 12), some (.ref 1), some (.int (nI s)), some (.int (nI a)), some (.int (nI b)), some (.int (nI n9)), some (.int (nI z6)), some (.int (nI c7)), some (.int (nI c8))] [] w36 (pV (fun w' => ∃ (po' : Nat → Nat), TM po' n9 w' ∧ FB 12 13 w w' ∧ (PT po') ∧ ((po' a).testBit b = true) ∧ (∀ c, c < 6 → s.testBit c = true → JMv n9 po' (cm c)) ∧ (∀ R, EqR R → R a b → (∀ x y c, x < n9 → y < n9 → c < 6 → s.testBit c = true → R x y → R (d8 (cm c) x) (d8 (cm c) y)) → PU R po'))) := by
              intro fuellp36_35
              induction fuellp36_35 with
              | zero => intros; omega
              | succ fuellp36_35 ihlp36_35 =>
                intro w36 po_36 z6 c8 hR37 hF38 hv36_0 hv36_1 hv36_2 hv36_3 hv36_4 hv36_5 hf39
                obtain ⟨h12_40, h13_40⟩ := hR37
                have h1_40 := (hF38.2 1 (by decide)).trans h1
                refine J_iload (pc := 36) dX4_joinBlocks_36 rfl ?_
                refine J_aload_n (pc := 38) dX4_joinBlocks_38 rfl rfl rfl ?_
                refine J_alen (pc := 39) (n := nI 6) dX4_joinBlocks_39 h1_40 (by decide) (by rw [List.length_map, List.length_range]; rfl) ?_
                refine J_icmp_geN (pc := 40) (tgt := 72) dX4_joinBlocks_40 (by decide) (by omega) (by omega) (fun ht41 => ?_) (fun hf42 => ?_)
                · refine J_iincN (pc := 72) (b := 1) dX4_joinBlocks_72 rfl (by decide) (by decide) rfl ?_
                  show J X mX4_joinBlocks d kc ks 75 [some (.ref 12), some (.ref 1), some (.int (nI s)), some (.int (nI a)), some (.int (nI b)), some (.int (nI n9)), some (.int (nI z6)), some (.int (nI (c7 + 1))), some (.int (nI c8))] [] w36 _
                  refine J_goto (pc := 75) (tgt := 18) dX4_joinBlocks_75 (by decide) ?_
                  exact J_sub (L' := [some (.ref 12), some (.ref 1), some (.int (nI s)), some (.int (nI a)), some (.int (nI b)), some (.int (nI n9)), some (.int (nI z6)), some (.int (nI (c7 + 1))), none]) ⟨rfl, ⟨rfl, ⟨rfl, ⟨rfl, ⟨rfl, ⟨rfl, ⟨rfl, ⟨rfl, trivial⟩⟩⟩⟩⟩⟩⟩⟩ (ihlp18_25 w36 po_36 z6 (c7 + 1) ⟨h12_40, h13_40⟩ hF38 (by exact hv36_0) (by exact hv36_1) (by exact hv36_2) (by exact JB_s hv36_3 (by omega)) (by first | assumption | omega) (by first | assumption | omega) (by omega))
                · refine J_iload_n (pc := 43) dX4_joinBlocks_43 rfl rfl ?_
                  refine J_iload (pc := 44) dX4_joinBlocks_44 rfl ?_
                  refine J_callSN0 (pc := 46) (M := mX4_joinBlocks) (as := [.int (nI s), .int (nI c8)]) dX4_joinBlocks_46 fw_X6_has fl_X4_29 fs_X6_has rfl (c_X6_has_atx hs (d := d - 1) (Nat.le_trans (by decide) hdm) (w := w36) s c8 (by omega) (by omega) (kc := 0) (ks := 0)) hdp (st := []) (Nat.le_of_ble_eq_true rfl) rfl (kr_P fun v43 hv43 => ?_) kx_I
                  rcases hv43 with ⟨rfl, hk43_0⟩ | ⟨rfl, hk43_0⟩
                  · refine J_if_eqN (pc := 49) (tgt := 66) dX4_joinBlocks_49 (by decide) (by decide) (fun _ => ?_) (fun h => absurd h (by decide))
                    refine J_iincN (pc := 66) (b := 1) dX4_joinBlocks_66 rfl (by decide) (by decide) rfl ?_
                    show J X mX4_joinBlocks d kc ks 69 [some (.ref 12), some (.ref 1), some (.int (nI s)), some (.int (nI a)), some (.int (nI b)), some (.int (nI n9)), some (.int (nI z6)), some (.int (nI c7)), some (.int (nI (c8 + 1)))] [] w36 _
                    refine J_goto (pc := 69) (tgt := 36) dX4_joinBlocks_69 (by decide) ?_
                    exact J_sub (L' := [some (.ref 12), some (.ref 1), some (.int (nI s)), some (.int (nI a)), some (.int (nI b)), some (.int (nI n9)), some (.int (nI z6)), some (.int (nI c7)), some (.int (nI (c8 + 1)))]) ⟨rfl, ⟨rfl, ⟨rfl, ⟨rfl, ⟨rfl, ⟨rfl, ⟨rfl, ⟨rfl, ⟨rfl, trivial⟩⟩⟩⟩⟩⟩⟩⟩⟩ (ihlp36_35 w36 po_36 z6 (c8 + 1) ⟨h12_40, h13_40⟩ hF38 (by first | exact hm0 | exact hv36_0) (by first | exact hm1 _ _ (by omega) (by omega) hv36_1 | exact hv36_1) (by first | exact fun R h1 h2 h3 => hm2 R h1 (fun p q hp hq e => h3 p q c8 hp hq (by omega) (by assumption) e) (hv36_2 R h1 h2 h3) | exact hv36_2) (by first | exact JC_k hv36_3 (hkj.elim (fun h => h.2) (fun h => absurd h.1 (by omega))) hm3 | exact JC_1 hv36_3 (hkj.elim (fun h => absurd h.1 (by omega)) (fun h => h.2)) hm3 | exact JC_n hv36_3 (by assumption)) (by first | assumption | omega) (by first | assumption | omega) (by omega))
                  · refine J_if_eqN (pc := 49) (tgt := 66) dX4_joinBlocks_49 (by decide) (by decide) (fun h => absurd h (by decide)) (fun _ => ?_)
                    refine J_aload_n (pc := 52) dX4_joinBlocks_52 rfl rfl rfl ?_
                    refine J_aload_n (pc := 53) dX4_joinBlocks_53 rfl rfl rfl ?_
                    refine J_iload (pc := 54) dX4_joinBlocks_54 rfl ?_
                    refine J_ialdF (pc := 56) dX4_joinBlocks_56 h1_40 (by omega) (by decide) ?_
                    refine J_callV0 (pc := 57) (M := mX4_joinBlocks) (as := [.int (nI (cm c8))]) dX4_joinBlocks_57 fw_X4_joinMoved fl_X4_39 fm_X4_joinMoved fe_X4_joinMoved h12_40 (by decide) rfl rfl rfl (c_X4_joinMoved_atx hs (d := d - 1) (Nat.le_trans (by decide) hdm) (w := w36) (po := po_36) (tn := n9) ⟨h12_40, h13_40⟩ (cm c8) (by exact hy0) (by exact hy1 c8 (by omega)) (by exact hv36_0) (kc := 0) (ks := 0)) hdp (st := []) (Nat.le_of_ble_eq_true rfl) rfl (kr_I fun v44 w44 hv44 hw44 => ?_) kx_I
                    obtain ⟨po44, hR44, hFc44, hp44_0, hp44_1, hp44_2, hp44_3⟩ := hw44
                    obtain ⟨h12_44, h13_44⟩ := hR44
                    have h1_44 := (hFc44.2 1 (by decide)).trans h1_40
                    have hF44 := hF38.tr hFc44
                    obtain ⟨k44, rfl, hk44⟩ := hv44
                    have hm0 := hp44_0
                    have hm1 := hp44_1
                    have hm2 := hp44_2
                    have hm3 := hp44_3
                    have hkj := hk44
                    refine J_if_eqN (pc := 60) (tgt := 66) dX4_joinBlocks_60 (by decide) (by omega) (fun ht45 => ?_) (fun hf46 => ?_)
                    · refine J_iincN (pc := 66) (b := 1) dX4_joinBlocks_66 rfl (by decide) (by decide) rfl ?_
                      show J X mX4_joinBlocks d kc ks 69 [some (.ref 12), some (.ref 1), some (.int (nI s)), some (.int (nI a)), some (.int (nI b)), some (.int (nI n9)), some (.int (nI z6)), some (.int (nI c7)), some (.int (nI (c8 + 1)))] [] w44 _
                      refine J_goto (pc := 69) (tgt := 36) dX4_joinBlocks_69 (by decide) ?_
                      exact J_sub (L' := [some (.ref 12), some (.ref 1), some (.int (nI s)), some (.int (nI a)), some (.int (nI b)), some (.int (nI n9)), some (.int (nI z6)), some (.int (nI c7)), some (.int (nI (c8 + 1)))]) ⟨rfl, ⟨rfl, ⟨rfl, ⟨rfl, ⟨rfl, ⟨rfl, ⟨rfl, ⟨rfl, ⟨rfl, trivial⟩⟩⟩⟩⟩⟩⟩⟩⟩ (ihlp36_35 w44 po44 z6 (c8 + 1) ⟨h12_44, h13_44⟩ hF44 (by first | exact hm0 | exact hv36_0) (by first | exact hm1 _ _ (by omega) (by omega) hv36_1 | exact hv36_1) (by first | exact fun R h1 h2 h3 => hm2 R h1 (fun p q hp hq e => h3 p q c8 hp hq (by omega) (by assumption) e) (hv36_2 R h1 h2 h3) | exact hv36_2) (by first | exact JC_k hv36_3 (hkj.elim (fun h => h.2) (fun h => absurd h.1 (by omega))) hm3 | exact JC_1 hv36_3 (hkj.elim (fun h => absurd h.1 (by omega)) (fun h => h.2)) hm3 | exact JC_n hv36_3 (by assumption)) (by first | assumption | omega) (by first | assumption | omega) (by omega))
                    · refine J_iconst (pc := 63) (v := nI 1) dX4_joinBlocks_63 (by decide) ?_
                      refine J_istore (pc := 64) dX4_joinBlocks_64 (by decide) rfl ?_
                      show J X mX4_joinBlocks d kc ks 66 [some (.ref 12), some (.ref 1), some (.int (nI s)), some (.int (nI a)), some (.int (nI b)), some (.int (nI n9)), some (.int (nI 1)), some (.int (nI c7)), some (.int (nI c8))] [] w44 _
                      refine J_iincN (pc := 66) (b := 1) dX4_joinBlocks_66 rfl (by decide) (by decide) rfl ?_
                      show J X mX4_joinBlocks d kc ks 69 [some (.ref 12), some (.ref 1), some (.int (nI s)), some (.int (nI a)), some (.int (nI b)), some (.int (nI n9)), some (.int (nI 1)), some (.int (nI c7)), some (.int (nI (c8 + 1)))] [] w44 _
                      refine J_goto (pc := 69) (tgt := 36) dX4_joinBlocks_69 (by decide) ?_
                      exact J_sub (L' := [some (.ref 12), some (.ref 1), some (.int (nI s)), some (.int (nI a)), some (.int (nI b)), some (.int (nI n9)), some (.int (nI 1)), some (.int (nI c7)), some (.int (nI (c8 + 1)))]) ⟨rfl, ⟨rfl, ⟨rfl, ⟨rfl, ⟨rfl, ⟨rfl, ⟨rfl, ⟨rfl, ⟨rfl, trivial⟩⟩⟩⟩⟩⟩⟩⟩⟩ (ihlp36_35 w44 po44 1 (c8 + 1) ⟨h12_44, h13_44⟩ hF44 (by first | exact hm0 | exact hv36_0) (by first | exact hm1 _ _ (by omega) (by omega) hv36_1 | exact hv36_1) (by first | exact fun R h1 h2 h3 => hm2 R h1 (fun p q hp hq e => h3 p q c8 hp hq (by omega) (by assumption) e) (hv36_2 R h1 h2 h3) | exact hv36_2) (by first | exact JC_k hv36_3 (hkj.elim (fun h => h.2) (fun h => absurd h.1 (by omega))) hm3 | exact JC_1 hv36_3 (hkj.elim (fun h => absurd h.1 (by omega)) (fun h => h.2)) hm3 | exact JC_n hv36_3 (by assumption)) (by first | assumption | omega) (by first | assumption | omega) (by omega))
            exact J_sub (L' := [some (.ref 12), some (.ref 1), some (.int (nI s)), some (.int (nI a)), some (.int (nI b)), some (.int (nI n9)), some (.int (nI 0)), some (.int (nI c7)), some (.int (nI 0))]) ⟨rfl, ⟨rfl, ⟨rfl, ⟨rfl, ⟨rfl, ⟨rfl, ⟨rfl, ⟨rfl, ⟨rfl, trivial⟩⟩⟩⟩⟩⟩⟩⟩⟩ (lp36_35 _ w26 po_18 0 0 ⟨h12_30, h13_30⟩ hF28 (by exact hv18_0) (by exact hv18_1) (by exact hv18_2) (by exact JC_0 hv18_3 (by assumption)) (by first | assumption | omega) (by first | assumption | omega) (Nat.lt_succ_self _))
    exact J_sub (L' := [some (.ref 12), some (.ref 1), some (.int (nI s)), some (.int (nI a)), some (.int (nI b)), some (.int (nI n9)), some (.int (nI 1)), some (.int (nI 0)), none]) ⟨rfl, ⟨rfl, ⟨rfl, ⟨rfl, ⟨rfl, ⟨rfl, ⟨rfl, ⟨rfl, trivial⟩⟩⟩⟩⟩⟩⟩⟩ (lp18_25 _ w2 po2 1 0 ⟨h12_2, h13_2⟩ hF2 (by exact hj1) (by exact hj3) (by exact fun R h1 h2 _ => hj4 R h1 (fun p q hp _ e => by rw [PTi_e hsep hp e]; exact h1.1 q) h2) (by first | exact Or.inl ⟨rfl, by rw [JP_same hjp (by assumption)]; exact JB_0 hsep hy0⟩ | exact JB_1 hsep hy0 (by omega) (by omega) hjp (by assumption)) (by first | assumption | omega) (by first | assumption | omega) (Nat.lt_succ_self _))
end
section
/-! private methods of a super class; texts under way -/
theorem jsel_private {C : String} {x0 y0 y : MethodName} {s : State} {args : Array Value} (hy : y.cls ≠ "java/lang/invoke/MethodHandle" ∧ y.cls ≠ "java/lang/invoke/VarHandle") (h0 : (Cond.selects C x0 y0).before args s = true) (e : y0.cls = y.cls)
    (hpriv : (Cond.privateMethod y).before args s = true) (hinst : (Cond.instanceMethod y).before args s = true) : (Cond.selects C y y).before args s = true := by
  obtain ⟨c, r, m0, q1, q2, q3, q4, mk0, q5, q6⟩ := Cond.selects_spec h0
  obtain ⟨mk, methM, hnamed, hmethM, -, -⟩ := Cond.instanceMethod_spec hinst
  have hfound : s.methodFound? y.cls y.name y.desc = some mk := State.methodFound?_of_named hnamed hy
  have hcls : mk.cls = m0.cls := Option.some.inj ((findClass_of_methodNamed hnamed).symm.trans (by rw [← e]; exact findClass_of_methodNamed q3))
  have hsel : selectMethod {} s.vm c mk = .method mk := selectMethod_private hmethM (Cond.privateMethod_at hpriv mk methM hnamed hmethM)
  simp only [Cond.before, Cond.holds, Cond.value, q1, hfound, hnamed, hsel, hcls, q5]
  simp
  exact q6
theorem fp_J5_ensure : Cond.privateMethod yJ5_ensureCapacityInternal_d00df ∈ jK := jK_of 610 (by decide +kernel) rfl
theorem fp_J5_newCap : Cond.privateMethod yJ5_newCapacity_0f7a4 ∈ jK := jK_of 614 (by decide +kernel) rfl
theorem fp_J5_putStringAt : Cond.privateMethod yJ5_putStringAt_47b60 ∈ jK := jK_of 795 (by decide +kernel) rfl
theorem fp_J5_inflateIf : Cond.privateMethod yJ5_inflateIfNeededFor_a7421 ∈ jK := jK_of 799 (by decide +kernel) rfl
section JSB0
variable {X : jX} {M : jM} {d kc ks pc : Nat} {L : List (Option Value)} {st : List Value} {w : List jC} {Q : jQ}
theorem J_callP {index d' kc' ks' n a ci : Nat} {x0 y0 : MethodName} {z : jM} {as fs : List Value} {q : vw_C} {Q' : jQ} (hdg : decode M.2.1 pc = .ok (.invokevirtual index, 3)) (hz : jCal z n) (hl : Cond.methodLink M.1.cls index z.1 ∈ jK) (hsm : Cond.sameMethod z.1.cls z.1.cls z.1.name z.1.desc ∈ jK) (hin : Cond.instanceMethod z.1 ∈ jK) (hpr : Cond.privateMethod z.1 ∈ jK) (hse : Cond.selects q.1 x0 y0 ∈ jK) (hy0 : y0.cls = z.1.cls) (hw : w[a]? = some (.inr (ci, fs))) (hci : ci < 99) (hc : vwCl[ci]? = some q) (hn : as.length = n) (hM : jMet X z d' kc' ks' (.ref a :: as) w Q') (hd : d' + 1 ≤ d) (hkc : kc' ≤ kc) (hks : ks' ≤ ks) (h8 : (st.map fun v => v.category).sum ≤ 8)
    {st0 : List Value} (h0 : st0 = as.reverse ++ .ref a :: st)
    (kr : ∀ (r : Option Value) (w' : List jC), Q' (.inl r) w' → J X M d (kc - kc') (ks - ks') (pc + 3) L (r.toList ++ st) w' Q) (kx : ∀ (E : String) (w' : List jC), Q' (.inr E) w' → JX X M d (kc - kc') (ks - ks') pc L st w' E Q) : J X M d kc ks pc L st0 w Q := by
  subst h0
  intro p e R s m args below meth c C H locs cells slots ls hH hS hL h1 h2
  have hA := jCtx_amb C
  obtain ⟨b1, b2, b3, b4, b5, b6, b7, b8, b9⟩ := jCal_back (args := args) (kc' := kc') (ks' := ks') C hz hd
  have hrc := j_recv C hH hw hci hc
  have hsel := jsel_private (C := q.1) (y := z.1) hz.2.2.2.2.1 (hA.word hse args) hy0 (hA.word hpr args) (hA.word hin args)
  refine j_core C hS hL h1 h2 hkc hks (vx_runU (x := z.1) (C := q.1) (owner := z.1.cls) (b := X.2.1 + a) (As := as.map (jT X)) (n := n) (j_fix C) hM ⟨⟨b1, b2, b3, b4, b5, b6⟩, b7, b8, hz.2.2.2.2.1, b9, hA.word hl args, hA.word hsm args, va_Decl.of (hA.word hin args) b7, hsel, hA.word hin args⟩ ⟨jBlind X (.ref a :: as) w, hrc, jPre C hH hS (.ref a :: as)⟩ rfl (by rw [List.length_map]; exact hn) hL.1 (by show (as.reverse ++ .ref a :: st).map (jT X) = _; rw [List.map_append, List.map_reverse]; rfl) (j_sum8 h8 X) hdg ⟨by omega, by omega⟩) kr kx
/-- a method that the receiver's class overrides: linked as z0, selected z -/
theorem J_callOv {index d' kc' ks' n n0 a ci : Nat} {z0 z : jM} {as fs : List Value} {q : vw_C} {Q' : jQ} (hdg : decode M.2.1 pc = .ok (.invokevirtual index, 3)) (hz : jCal z n) (hz0 : jCal z0 n0) (hl : Cond.methodLink M.1.cls index z0.1 ∈ jK) (hsm : Cond.sameMethod z0.1.cls z0.1.cls z0.1.name z0.1.desc ∈ jK) (hin0 : Cond.instanceMethod z0.1 ∈ jK) (hin : Cond.instanceMethod z.1 ∈ jK) (hse : Cond.selects q.1 z0.1 z.1 ∈ jK) (hde : z0.1.desc = z.1.desc) (hw : w[a]? = some (.inr (ci, fs))) (hci : ci < 99) (hc : vwCl[ci]? = some q) (hn : as.length = n) (hM : jMet X z d' kc' ks' (.ref a :: as) w Q') (hd : d' + 1 ≤ d) (hkc : kc' ≤ kc) (hks : ks' ≤ ks) (h8 : (st.map fun v => v.category).sum ≤ 8)
    {st0 : List Value} (h0 : st0 = as.reverse ++ .ref a :: st)
    (kr : ∀ (r : Option Value) (w' : List jC), Q' (.inl r) w' → J X M d (kc - kc') (ks - ks') (pc + 3) L (r.toList ++ st) w' Q) (kx : ∀ (E : String) (w' : List jC), Q' (.inr E) w' → JX X M d (kc - kc') (ks - ks') pc L st w' E Q) : J X M d kc ks pc L st0 w Q := by
  subst h0
  intro p e R s m args below meth c C H locs cells slots ls hH hS hL h1 h2
  have hA := jCtx_amb C
  obtain ⟨b1, b2, b3, b4, b5, b6, b7, b8, b9⟩ := jCal_back (args := args) (kc' := kc') (ks' := ks') C hz hd
  have hrc := j_recv C hH hw hci hc
  have hcode := hA.word hz0.2.1 args
  rw [jCal_word hz0] at hcode
  refine j_core C hS hL h1 h2 hkc hks (vx_runU (x := z0.1) (C := q.1) (owner := z0.1.cls) (b := X.2.1 + a) (As := as.map (jT X)) (n := n) (j_fix C) hM ⟨⟨b1, b2, b3, b4, b5, b6⟩, b7, b8, hz0.2.2.2.2.1, fun sig hs => b9 sig (by rw [← hde]; exact hs), hA.word hl args, hA.word hsm args, va_Decl.of (hA.word hin0 args) hcode, hA.word hse args, hA.word hin args⟩ ⟨jBlind X (.ref a :: as) w, hrc, jPre C hH hS (.ref a :: as)⟩ rfl (by rw [List.length_map]; exact hn) hL.1 (by show (as.reverse ++ .ref a :: st).map (jT X) = _; rw [List.map_append, List.map_reverse]; rfl) (j_sum8 h8 X) hdg ⟨by omega, by omega⟩) kr kx
end JSB0
abbrev SBp (a v : Nat) (ml : Int32) (c : Nat) (bs : List Int32) (w : List jC) : Prop := w[a]? = some (.inr (1, [.ref v, .int 0, .int ml, .int (nI c)])) ∧ w[v]? = some (.inl (1, bs)) ∧ jFitB bs ∧ c ≤ bs.length ∧ 16 ≤ bs.length ∧ bs.length ≤ 270
/-- only a, v and what is new change -/
def FS (a v : Nat) (w w' : List jC) : Prop := w.length ≤ w'.length ∧ ∀ i, i ≠ a → i ≠ v → i < w.length → w'[i]? = w[i]?
theorem FS.rf {a v : Nat} {w : List jC} : FS a v w w := ⟨Nat.le_refl _, fun _ _ _ _ => rfl⟩
theorem FS.tr {a v v' : Nat} {w w' w'' : List jC} (h : FS a v w w') (h' : FS a v' w' w'') (hv : v' = v ∨ w.length ≤ v') : FS a v w w'' := by
  refine ⟨Nat.le_trans h.1 h'.1, fun i h1 h2 h3 => ?_⟩
  have : i ≠ v' := by omega
  exact (h'.2 i h1 this (Nat.lt_of_lt_of_le h3 h.1)).trans (h.2 i h1 h2 h3)
theorem FS.st {a v q : Nat} {w w' w'' : List jC} (h : FS a v w w') (hl : w''.length = w'.length) (hn : ∀ c, c ≠ q → w''[c]? = w'[c]?) (hq : q = a ∨ q = v ∨ w.length ≤ q) : FS a v w w'' :=
  ⟨by rw [hl]; exact h.1, fun i h1 h2 h3 => (hn i (by omega)).trans (h.2 i h1 h2 h3)⟩
theorem FS.pu {a v q : Nat} {w w' w'' : List jC} (h : FS a v w w') (hq : q = w'.length) (hl : w''.length = q + 1) (hn : ∀ c, c < q → w''[c]? = w'[c]?) : FS a v w w'' :=
  ⟨by have := h.1; omega, fun i h1 h2 h3 => (hn i (by have := h.1; omega)).trans (h.2 i h1 h2 h3)⟩
theorem FS.tr2 {a v p : Nat} {w w' w'' : List jC} (h : FS a v w w') (h' : FS p p w' w'') (hp : p = a ∨ p = v ∨ w.length ≤ p) : FS a v w w'' :=
  ⟨Nat.le_trans h.1 h'.1, fun i h1 h2 h3 => (h'.2 i (by omega) (by omega) (Nat.lt_of_lt_of_le h3 h.1)).trans (h.2 i h1 h2 h3)⟩
end
section
/-! rules for texts under way: bytes, copies, clones -/
theorem jFitB_rep (n : Nat) : jFitB (List.replicate n 0) := by
  intro x hx
  rw [(List.mem_replicate.mp hx).2]
  decide
theorem jFitB_set {xs : List Int32} (h : jFitB xs) (i : Nat) (x : Int32) : jFitB (xs.set i x.toInt8.toInt32) := by
  intro y hy
  rcases List.mem_or_eq_of_mem_set hy with e | e
  · exact h y e
  · rw [e]
    exact pk_fb x
/-- the digit rows and the four texts that are read -/
def XO (X : jX) : Prop := (∃ ys : List Int32, X.2.2.2.2.2[1]? = some (.inl (1, ys)) ∧ ys.length = 100) ∧ (∃ ys : List Int32, X.2.2.2.2.2[2]? = some (.inl (1, ys)) ∧ ys.length = 100) ∧
  (∃ (ys : List Int32) (t : Nat) (z : List Value), X.2.2.2.2.2[5]? = some (.inr (0, .retAddr t :: z)) ∧ X.2.2.2.2.2[t]? = some (.inl (1, ys)) ∧ ys.length = 0 ∧ jFitB ys) ∧
  (∃ (ys : List Int32) (t : Nat) (z : List Value), X.2.2.2.2.2[6]? = some (.inr (0, .retAddr t :: z)) ∧ X.2.2.2.2.2[t]? = some (.inl (1, ys)) ∧ ys.length = 1 ∧ jFitB ys)
section JSB1
variable {X : jX} {M : jM} {d kc ks pc : Nat} {L : List (Option Value)} {st : List Value} {w : List jC} {Q : jQ}
theorem J_null (hdg : decode M.2.1 pc = .ok (.aconst_null, 1)) (k : J X M d kc ks (pc + 1) L (.null :: st) w Q) : J X M d kc ks pc L st w Q :=
  fun p e R s m args below meth c C H locs cells slots ls hH hS hL h1 h2 => lv_null C.1 C.2.1 hdg (k p e R s m args below meth c C H locs cells slots ls hH hS hL h1 h2)
theorem J_ishr0 {a : Nat} (hdg : decode M.2.1 pc = .ok (.ishr, 1)) (ha : a < 2 ^ 31) (k : J X M d kc ks (pc + 1) L (.int (nI a) :: st) w Q) : J X M d kc ks pc L (.int (nI 0) :: .int (nI a) :: st) w Q :=
  J_ishrN (s := 0) hdg ha (by decide) (by rw [Nat.pow_zero, Nat.div_one]; exact k)
theorem J_ishl0 {a : Nat} (hdg : decode M.2.1 pc = .ok (.ishl, 1)) (ha : a < 2 ^ 31) (k : J X M d kc ks (pc + 1) L (.int (nI a) :: st) w Q) : J X M d kc ks pc L (.int (nI 0) :: .int (nI a) :: st) w Q :=
  J_ishl hdg (by
    rw [pk_shlN (n := a) _ 0 (sh_of (by decide)) (by omega), Nat.pow_zero, Nat.mul_one]
    exact k)
theorem J_subIfle {a b : Nat} {off : Int} {tgt : Nat} (hdg : decode M.2.1 pc = .ok (.isub, 1)) (hdg2 : decode M.2.1 (pc + 1) = .ok (.ifCond .le off, 3)) (ht : ((pc + 1 : Nat) : Int) + off = (tgt : Int)) (ha : a < 2 ^ 30) (hb : b < 2 ^ 30)
    (kt : a ≤ b → J X M d kc ks tgt L st w Q) (kf : b < a → J X M d kc ks (pc + 4) L st w Q) : J X M d kc ks pc L (.int (nI b) :: .int (nI a) :: st) w Q := by
  have e1 := pk_sub_toInt (a := a) (b := b) ha hb
  refine J_isub hdg (J_if_le hdg2 ht (fun h => kt ?_) (fun h => kf ?_))
  · rw [Int32.le_iff_toInt_le, e1, Int32.toInt_zero] at h
    omega
  · rw [Int32.le_iff_toInt_le, e1, Int32.toInt_zero] at h
    omega
theorem J_newB {n N : Nat} (hdg : decode M.2.1 pc = .ok (.newarray .byte, 2)) (hn : n = N) (hb : N ≤ 10000) (hkc : 1 ≤ kc) (hks : N ≤ ks)
    (kk : ∀ (a : Nat) (w' : List jC) (ys : List Int32), a = w.length → w'.length = a + 1 → w'[a]? = some (.inl (1, ys)) → ys.length = N → jFitB ys → (∀ c, c < a → w'[c]? = w[c]?) → J X M d (kc - 1) (ks - N) (pc + 2) L (.ref a :: st) w' Q) : J X M d kc ks pc L (.int (nI n) :: st) w Q := by
  subst hn
  refine J_newa (t := 1) hdg (by decide) rfl fa_byte (nI_pos (by omega)) (nI_clamp (by omega)) (by omega) hkc hks ?_
  refine kk _ _ (List.replicate n 0) rfl (by rw [List.length_append]; rfl) ?_ List.length_replicate (jFitB_rep n) (fun c hc => List.getElem?_append_left hc)
  rw [List.getElem?_append_right (Nat.le_refl _), Nat.sub_self]
  rfl
theorem J_bastS {a i : Nat} {xs : List Int32} {x : Int32} (hdg : decode M.2.1 pc = .ok (.bastore, 1)) (hw : w[a]? = some (.inl (1, xs))) (hf : jFitB xs) (hi : i < xs.length) (hl : xs.length < 2 ^ 31)
    (kk : ∀ (w' : List jC) (ys : List Int32), w'.length = w.length → w'[a]? = some (.inl (1, ys)) → ys.length = xs.length → jFitB ys → (∀ c, c ≠ a → w'[c]? = w[c]?) → J X M d kc ks (pc + 1) L st w' Q) : J X M d kc ks pc L (.int x :: .int (nI i) :: .ref a :: st) w Q :=
  J_bast hdg hw (nI_in hi hl) (kk _ _ List.length_set (List.getElem?_set_self (gl hw)) List.length_set (jFitB_set hf _ x) (fun c hc => List.getElem?_set_ne (fun e => hc e.symm)))
theorem J_copyS {index a0 a1 sp dp n : Nat} {xs ys : List Int32} (hdg : decode M.2.1 pc = .ok (.invokestatic index, 3)) (hl : Cond.methodLink M.1.cls index arraycopyName ∈ jK) (hna : Cond.native arraycopyName ∈ jK) (hst : Cond.static arraycopyName ∈ jK) (hini : Cond.initialized "java/lang/System" ∈ jK)
    (hw0 : w[a0]? = some (.inl (1, xs))) (hf0 : jFitB xs) (hw : w[a1]? = some (.inl (1, ys))) (hf : jFitB ys) (h1 : sp < 2 ^ 31) (h2 : dp < 2 ^ 31) (h3 : n < 2 ^ 31) (h4 : sp + n ≤ xs.length) (h5 : dp + n ≤ ys.length) (hd : 2 ≤ d) (h8 : (st.map fun v => v.category).sum ≤ 8)
    (kk : ∀ (w' : List jC) (zs : List Int32), w'.length = w.length → w'[a1]? = some (.inl (1, zs)) → zs.length = ys.length → jFitB zs → (∀ c, c ≠ a1 → w'[c]? = w[c]?) → J X M d kc ks (pc + 3) L st w' Q) : J X M d kc ks pc L (.int (nI n) :: .int (nI dp) :: .ref a1 :: .int (nI sp) :: .ref a0 :: st) w Q :=
  J_copy hdg hl hna hst hini hw0 hw (nI_pos h1) (nI_pos h2) (nI_pos h3) (by rw [nI_clamp h1, nI_clamp h3]; exact h4) (by rw [nI_clamp h2, nI_clamp h3]; exact h5) hf0 hd h8
    (kk _ _ List.length_set (List.getElem?_set_self (gl hw)) (jCpy_len _ _ _ _ _) (jFitB_cpy hf0 hf _ _ _) (fun c hc => List.getElem?_set_ne (fun e => hc e.symm)))
theorem J_copyOS {index a0 a1 sp dp n : Nat} {xs ys : List Int32} (hdg : decode M.2.1 pc = .ok (.invokestatic index, 3)) (hl : Cond.methodLink M.1.cls index arraycopyName ∈ jK) (hna : Cond.native arraycopyName ∈ jK) (hst : Cond.static arraycopyName ∈ jK) (hini : Cond.initialized "java/lang/System" ∈ jK)
    (hw0 : X.2.2.2.2.2[a0]? = some (.inl (1, xs))) (hf0 : jFitB xs) (hw : w[a1]? = some (.inl (1, ys))) (hf : jFitB ys) (h1 : sp < 2 ^ 31) (h2 : dp < 2 ^ 31) (h3 : n < 2 ^ 31) (h4 : sp + n ≤ xs.length) (h5 : dp + n ≤ ys.length) (hd : 2 ≤ d) (h8 : (st.map fun v => v.category).sum ≤ 8)
    (kk : ∀ (w' : List jC) (zs : List Int32), w'.length = w.length → w'[a1]? = some (.inl (1, zs)) → zs.length = ys.length → jFitB zs → (∀ c, c ≠ a1 → w'[c]? = w[c]?) → J X M d kc ks (pc + 3) L st w' Q) : J X M d kc ks pc L (.int (nI n) :: .int (nI dp) :: .ref a1 :: .int (nI sp) :: .retAddr a0 :: st) w Q :=
  J_copyO hdg hl hna hst hini hw0 hw (nI_pos h1) (nI_pos h2) (nI_pos h3) (by rw [nI_clamp h1, nI_clamp h3]; exact h4) (by rw [nI_clamp h2, nI_clamp h3]; exact h5) hf0 hd h8
    (kk _ _ List.length_set (List.getElem?_set_self (gl hw)) (jCpy_len _ _ _ _ _) (jFitB_cpy hf0 hf _ _ _) (fun c hc => List.getElem?_set_ne (fun e => hc e.symm)))
theorem J_cloneB {index a : Nat} {xs : List Int32} (hdg : decode M.2.1 pc = .ok (.invokevirtual index, 3)) (hl : Cond.methodLink M.1.cls index ⟨"[B", "clone", "()Ljava/lang/Object;"⟩ ∈ jK) (hsame : Cond.sameMethod "[B" "java/lang/Object" "clone" "()Ljava/lang/Object;" ∈ jK)
    (hnat : Cond.native ⟨"java/lang/Object", "clone", "()Ljava/lang/Object;"⟩ ∈ jK) (hinst : Cond.instanceMethod ⟨"java/lang/Object", "clone", "()Ljava/lang/Object;"⟩ ∈ jK) (hsel : Cond.selects "[B" ⟨"[B", "clone", "()Ljava/lang/Object;"⟩ ⟨"java/lang/Object", "clone", "()Ljava/lang/Object;"⟩ ∈ jK) (hcl : Cond.castable "[B" "java/lang/Cloneable" ∈ jK)
    (hw : w[a]? = some (.inl (1, xs))) (hf : jFitB xs) (hd : 1 ≤ d) (h8 : (st.map fun v => v.category).sum ≤ 8) (hkc : 1 ≤ kc) (hks : xs.length ≤ ks)
    (kk : J X M d (kc - 1) (ks - xs.length) (pc + 3) L (.ref w.length :: st) (w ++ [.inl (1, xs)]) Q) : J X M d kc ks pc L (.ref a :: st) w Q := by
  intro p e R s m args below meth c C9 H locs cells slots ls hH hS hL h1 h2
  have hA := jCtx_amb C9
  have hd1 := C9.2.2.2.2.2.2.2.2.2.2
  have hnm : s.vm.findClass "[B" = some (X.2.2.2.2.1 1) := (hA.2.1.2 1 _ rfl).2
  obtain ⟨c0, t0', f1, f2, f3⟩ := Cond.castable_spec (hA.word hcl args)
  cases hnm.symm.trans f1
  have hlen : H.size = X.2.1 + w.length := hH.1
  have hc0 : H[X.2.1 + a]? = some (arrV (X.2.2.2.2.1 1) xs.length (fun j => .int (xs.getD j 0))) := hH.2 a _ hw (fun _ e => by cases e)
  have hsz : (arrV (X.2.2.2.2.1 1) xs.length (fun j => .int (xs.getD j 0))).slots.size = xs.length := arrV_size _ _ _
  intro T hT X1
  have hcellT : T.heap[X.2.1 + a]? = some (arrV (X.2.2.2.2.1 1) xs.length (fun j => .int (xs.getD j 0))) := by rw [hT]; exact hc0
  obtain ⟨-, kA, hkA, comp, hkind⟩ := State.isArrayOf_alike X1.warmed.alike ((hA.2.1.2 1 _ rfl).1 0 (fun _ => .null))
  obtain ⟨-, kS, hkS, compS, hkindS⟩ := (hA.2.1.2 1 _ rfl).1 0 (fun _ => .null)
  obtain ⟨vm', X', st1⟩ := X1.cloneArray C9.1 C9.2.2.2.1 (hA.word hl args) (hA.word hsame args) (hA.word hnat args) (hA.word hinst args) (hA.word hsel args) (a := X.2.1 + a) (cell := arrV (X.2.2.2.2.1 1) xs.length (fun j => .int (xs.getD j 0))) hcellT (fun k h => by cases h) (fun h => by cases h) hnm f2 f3
    (fun i v hv => by
      have hk' : T.vm.classes[X.2.2.2.2.1 1]? = some kA := hkA
      have hi : i < xs.length := by
        have := (Array.getElem?_eq_some_iff.mp hv).1
        rw [hsz] at this
        exact this
      rw [arrV_read _ _ hi] at hv
      cases hv
      show T.fitsSlot (X.2.2.2.2.1 1) .none i _ = true
      simpa [State.fitsSlot, State.slotType?, hk', hkind] using jFitB_getD hf i)
    (g := F0 m pc ls (.ref (X.2.1 + a) :: st.map (jT X))) rfl (by rw [hL.1]; exact C9.2.2.1.symm) rfl (by rw [C9.2.1]; exact hdg) (by omega) (by
      show 2 * 0 + ((st.map (jT X)).map fun v => v.category).sum + 14 ≤ R.locals
      rw [jT_sum]
      omega) (by omega) (by rw [hsz]; omega) (hloader := Vm.clonesLoader_of_array hkS hkindS)
  rw [hsz] at X'
  generalize hH1 : H.push (arrV (X.2.2.2.2.1 1) xs.length (fun j => .int (xs.getD j 0))) = H1 at *
  have z1 : H1.size = H.size + 1 := by rw [← hH1, Array.size_push]
  have e1 : H1[H.size]? = some (arrV (X.2.2.2.2.1 1) xs.length (fun j => .int (xs.getD j 0))) := by rw [← hH1, Array.getElem?_push_size]
  have o1 : ∀ q : Nat, q < H.size → H1[q]? = H[q]? := fun q hq => by rw [← hH1, Array.getElem?_push, if_neg (Nat.ne_of_lt hq)]
  have hk := kk p e R s m args below meth c C9 H1 locs (cells + 1) (slots + xs.length) ls (jH_push hH z1 o1 (fun _ => by show H1[X.2.1 + w.length]? = _; rw [← hlen, e1]; rfl)) ⟨Nat.le_trans hS.1 (by omega), fun q g1 g2 => (o1 q (Nat.lt_of_lt_of_le g1 hS.1)).trans (hS.2.1 q g1 g2), hS.2.2⟩ hL (by omega) (by omega)
  rw [List.map_cons, show jT X (.ref w.length) = .ref H.size by rw [hlen]; rfl] at hk
  obtain ⟨t, b1, b2⟩ := hk ((T.setVm vm').pushCell (arrV (X.2.2.2.2.1 1) xs.length (fun j => .int (xs.getD j 0)))) (by rw [← hH1, ← hT]; rfl) X'
  refine ⟨t, st1 t ?_, b2⟩
  rw [hT]
  exact b1
theorem fl_clone : Cond.methodLink RJ7 310 ⟨"[B", "clone", "()Ljava/lang/Object;"⟩ ∈ jK := jK_of 629 (by decide +kernel) rfl
theorem fq_clone : Cond.sameMethod "[B" "java/lang/Object" "clone" "()Ljava/lang/Object;" ∈ jK := jK_of 630 (by decide +kernel) rfl
theorem fnat_clone : Cond.native ⟨"java/lang/Object", "clone", "()Ljava/lang/Object;"⟩ ∈ jK := jK_of 631 (by decide +kernel) rfl
theorem fm_clone : Cond.instanceMethod ⟨"java/lang/Object", "clone", "()Ljava/lang/Object;"⟩ ∈ jK := jK_of 632 (by decide +kernel) rfl
theorem fe_clone : Cond.selects "[B" ⟨"[B", "clone", "()Ljava/lang/Object;"⟩ ⟨"java/lang/Object", "clone", "()Ljava/lang/Object;"⟩ ∈ jK := jK_of 633 (by decide +kernel) rfl
theorem fcast_clone : Cond.castable "[B" "java/lang/Cloneable" ∈ jK := jK_of 634 (by decide +kernel) rfl
theorem J_cloneS {index a : Nat} {xs : List Int32} (hdg : decode M.2.1 pc = .ok (.invokevirtual index, 3)) (hl : Cond.methodLink M.1.cls index ⟨"[B", "clone", "()Ljava/lang/Object;"⟩ ∈ jK) (hsame : Cond.sameMethod "[B" "java/lang/Object" "clone" "()Ljava/lang/Object;" ∈ jK)
    (hnat : Cond.native ⟨"java/lang/Object", "clone", "()Ljava/lang/Object;"⟩ ∈ jK) (hinst : Cond.instanceMethod ⟨"java/lang/Object", "clone", "()Ljava/lang/Object;"⟩ ∈ jK) (hsel : Cond.selects "[B" ⟨"[B", "clone", "()Ljava/lang/Object;"⟩ ⟨"java/lang/Object", "clone", "()Ljava/lang/Object;"⟩ ∈ jK) (hcl : Cond.castable "[B" "java/lang/Cloneable" ∈ jK)
    (hw : w[a]? = some (.inl (1, xs))) (hf : jFitB xs) (hd : 1 ≤ d) (h8 : (st.map fun v => v.category).sum ≤ 8) (hkc : 1 ≤ kc) (hks : xs.length ≤ ks)
    (kk : ∀ (b : Nat) (w' : List jC), b = w.length → w'.length = b + 1 → w'[b]? = some (.inl (1, xs)) → (∀ c, c < b → w'[c]? = w[c]?) → J X M d (kc - 1) (ks - xs.length) (pc + 3) L (.ref b :: st) w' Q) : J X M d kc ks pc L (.ref a :: st) w Q := by
  refine J_cloneB hdg hl hsame hnat hinst hsel hcl hw hf hd h8 hkc hks (kk _ _ rfl (by rw [List.length_append]; rfl) ?_ (fun c hc => List.getElem?_append_left hc))
  rw [List.getElem?_append_right (Nat.le_refl _), Nat.sub_self]
  rfl
theorem J_newO {ci : Nat} {C : String} {T : u_T} {N index : Nat} {ty : Nat → FieldType} {fs : List Value} (hdg : decode M.2.1 pc = .ok (.new index, 3)) (hC : jCl ci C T N ty) (hcl : Cond.classLink M.1.cls index C ∈ jK) (hins : Cond.instantiable C N ∈ jK) (hini : Cond.initialized C ∈ jK)
    (hfs : ∀ j, j < N → defaultValue (ty j) = vp_V (fs.map (jT X)) j) (hkc : 1 ≤ kc) (hks : N ≤ ks)
    (kk : ∀ (b : Nat) (w' : List jC), b = w.length → w'.length = b + 1 → w'[b]? = some (.inr (ci, fs)) → (∀ c, c < b → w'[c]? = w[c]?) → J X M d (kc - 1) (ks - N) (pc + 3) L (.ref b :: st) w' Q) : J X M d kc ks pc L st w Q := by
  refine J_new hdg hC hcl hins hini hfs hkc hks (kk _ _ rfl (by rw [List.length_append]; rfl) ?_ (fun c hc => List.getElem?_append_left hc))
  rw [List.getElem?_append_right (Nat.le_refl _), Nat.sub_self]
  rfl
theorem J_castB {index a : Nat} {xs : List Int32} (hdg : decode M.2.1 pc = .ok (.checkcast index, 3)) (hl : Cond.classLink M.1.cls index "[B" ∈ jK) (hw : w[a]? = some (.inl (1, xs))) (kk : J X M d kc ks (pc + 3) L (.ref a :: st) w Q) : J X M d kc ks pc L (.ref a :: st) w Q := by
  intro p e R s m args below meth c C9 H locs cells slots ls hH hS hL h1 h2
  have hA := jCtx_amb C9
  have hnm : s.vm.findClass "[B" = some (X.2.2.2.2.1 1) := (hA.2.1.2 1 _ rfl).2
  have hP := jH_at hH hw (fun _ e => by cases e)
  exact va_castA C9.1 C9.2.1 C9.2.2.2.1 (hA.word hl args) hP 0 rfl hnm hdg (kk p e R s m args below meth c C9 H locs cells slots ls hH hS hL h1 h2)
theorem J_inegG {a : Nat} (hdg : decode M.2.1 pc = .ok (.ineg, 1)) (k : J X M d kc ks (pc + 1) L (.int (nI a) :: st) w Q) : J X M d kc ks pc L (.int (-nI a) :: st) w Q := J_ineg hdg (by rw [Int32.neg_neg]; exact k)
theorem J_icmp_leG {a P : Nat} {y : Int32} {off : Int} {tgt : Nat} (hdg : decode M.2.1 pc = .ok (.if_icmp .le off, 3)) (ht : (pc : Int) + off = (tgt : Int)) (hy : y = -nI P) (ha : a < 2 ^ 31) (hP : P < 2 ^ 31) (kt : P ≤ a → J X M d kc ks tgt L st w Q) (kf : a < P → J X M d kc ks (pc + 3) L st w Q) : J X M d kc ks pc L (.int y :: .int (-nI a) :: st) w Q := by
  subst hy
  exact J_icmp_le hdg ht (fun h => kt ((sb_nle ha hP).mp h)) (fun h => kf (Nat.not_le.mp fun e => h ((sb_nle ha hP).mpr e)))
theorem J_icmp_gtG {a P : Nat} {y : Int32} {off : Int} {tgt : Nat} (hdg : decode M.2.1 pc = .ok (.if_icmp .gt off, 3)) (ht : (pc : Int) + off = (tgt : Int)) (hy : y = -nI P) (ha : a < 2 ^ 31) (hP : P < 2 ^ 31) (kt : a < P → J X M d kc ks tgt L st w Q) (kf : P ≤ a → J X M d kc ks (pc + 3) L st w Q) : J X M d kc ks pc L (.int y :: .int (-nI a) :: st) w Q := by
  subst hy
  exact J_icmp_gt hdg ht (fun h => kt ((sb_nlt hP ha).mp h)) (fun h => kf (Nat.not_lt.mp fun e => h ((sb_nlt hP ha).mpr e)))
theorem J_icmp_geG {a P : Nat} {y : Int32} {off : Int} {tgt : Nat} (hdg : decode M.2.1 pc = .ok (.if_icmp .ge off, 3)) (ht : (pc : Int) + off = (tgt : Int)) (hy : y = -nI P) (ha : a < 2 ^ 31) (hP : P < 2 ^ 31) (kt : a ≤ P → J X M d kc ks tgt L st w Q) (kf : P < a → J X M d kc ks (pc + 3) L st w Q) : J X M d kc ks pc L (.int y :: .int (-nI a) :: st) w Q := by
  subst hy
  exact J_icmp_ge hdg ht (fun h => kt ((sb_nle hP ha).mp h)) (fun h => kf (Nat.not_le.mp fun e => h ((sb_nle hP ha).mpr e)))
theorem div_G : ∀ i, i < 100 → ∀ j, j < 100 → -nI (100 * i + j) / nI 100 = -nI i := by decide +kernel
theorem J_idivG {a : Nat} (hdg : decode M.2.1 pc = .ok (.idiv, 1)) (ha : a < 10000) (k : J X M d kc ks (pc + 1) L (.int (-nI (a / 100)) :: st) w Q) : J X M d kc ks pc L (.int (nI 100) :: .int (-nI a) :: st) w Q := by
  have e := div_G (a / 100) (by omega) (a % 100) (by omega)
  rw [show 100 * (a / 100) + a % 100 = a by omega] at e
  exact J_idiv hdg (nI_ne0 (by decide) (by decide)) (by rw [e]; exact k)
theorem J_imulG {a b : Nat} (hdg : decode M.2.1 pc = .ok (.imul, 1)) (k : J X M d kc ks (pc + 1) L (.int (-nI (a * b)) :: st) w Q) : J X M d kc ks pc L (.int (nI b) :: .int (-nI a) :: st) w Q :=
  J_imul hdg (by rw [Int32.neg_mul, pk_mul]; exact k)
theorem J_isubG {a b : Nat} (hdg : decode M.2.1 pc = .ok (.isub, 1)) (h : b ≤ a) (k : J X M d kc ks (pc + 1) L (.int (nI (a - b)) :: st) w Q) : J X M d kc ks pc L (.int (-nI a) :: .int (-nI b) :: st) w Q :=
  J_isub hdg (by
    have e : -nI b - -nI a = nI (a - b) := by
      rw [← pk_sub h, Int32.sub_eq_add_neg, Int32.neg_neg, Int32.sub_eq_add_neg, Int32.add_comm]
    rw [e]
    exact k)
end JSB1
/-- how many digits -/
def dgs (x : Nat) : Nat := if x < 10 then 1 else if x < 100 then 2 else if x < 1000 then 3 else 4
theorem dgs_le (x : Nat) : 1 ≤ dgs x ∧ dgs x ≤ 4 := by
  unfold dgs
  (repeat' split) <;> omega
/-- how long the bytes are behind a call for room -/
def gL (m len : Nat) : Nat := if m ≤ len then len else if m ≤ 2 * len + 2 then 2 * len + 2 else m
theorem gL_d (m len : Nat) : (m ≤ len ∧ gL m len = len) ∨ (len < m ∧ m ≤ 2 * len + 2 ∧ gL m len = 2 * len + 2) ∨ (2 * len + 2 < m ∧ gL m len = m) := by
  unfold gL
  (repeat' split) <;> omega
/-- .. behind a word -/
def gw (c x len : Nat) : Nat := if c = 0 then gL (c + dgs x) len else gL (c + 1 + dgs x) (gL (c + 1) len)
theorem gw_d (c x len : Nat) : (c = 0 ∧ gw c x len = gL (c + dgs x) len) ∨ (0 < c ∧ gw c x len = gL (c + 1 + dgs x) (gL (c + 1) len)) := by
  unfold gw
  split
  · exact Or.inl ⟨by assumption, rfl⟩
  · exact Or.inr ⟨by omega, rfl⟩
theorem gw_f (c x len : Nat) : len ≤ gw c x len ∧ (gw c x len ≤ len ∨ gw c x len ≤ 2 * (c + 1 + dgs x)) := by
  have h0 := gw_d c x len
  have h1 := gL_d (c + dgs x) len
  have h2 := gL_d (c + 1) len
  have h3 := gL_d (c + 1 + dgs x) (gL (c + 1) len)
  omega
theorem df_J0 {X : jX} : ∀ j, j < 4 → defaultValue (tyJ0 j) = vp_V (([.null, .int (nI 0), .int (nI 0), .int (nI 0)] : List Value).map (jT X)) j := by
  intro j hj
  match j with
  | 0 => rfl
  | 1 => rfl
  | 2 => rfl
  | 3 => rfl
  | j + 4 => omega
theorem df_J4 {X : jX} : ∀ j, j < 4 → defaultValue (tyJ4 j) = vp_V (([.null, .int (nI 0), .int (nI 0), .int (nI 0)] : List Value).map (jT X)) j := by
  intro j hj
  match j with
  | 0 => rfl
  | 1 => rfl
  | 2 => rfl
  | 3 => rfl
  | j + 4 => omega
theorem dgs_1 {x : Nat} (h : x < 10) : dgs x = 1 := by
  unfold dgs
  rw [if_pos h]
theorem FR.sb {b b' a v : Nat} {w w' w'' : List jC} (h : FR b b' w w') (h' : FS a v w' w'') (ha : w.length ≤ a) (hv : w.length ≤ v) : FR b b' w w'' :=
  ⟨Nat.le_trans h.1 h'.1, h.2.1, fun i h1 h2 h3 => (h'.2 i (by omega) (by omega) (Nat.lt_of_lt_of_le h3 h.1)).trans (h.2.2 i h1 h2 h3)⟩
theorem FR.gr {b b' : Nat} {w w' w'' : List jC} (h : FR b b' w w') (hl : w'.length ≤ w''.length) (hn : ∀ i, i < w'.length → w''[i]? = w'[i]?) : FR b b' w w'' :=
  ⟨Nat.le_trans h.1 hl, h.2.1, fun i h1 h2 h3 => (hn i (Nat.lt_of_lt_of_le h3 h.1)).trans (h.2.2 i h1 h2 h3)⟩
theorem SH.fs {ρ : List (jC → Prop)} {a v : Nat} {w w' : List jC} (h : SH ρ w) (h' : FS a v w w') (ha : ρ.length ≤ a) (hv : ρ.length ≤ v) : SH ρ w' :=
  h.keep (fun i hi => h'.2 i (by omega) (by omega) (h.lt hi))
theorem SH.gr {ρ : List (jC → Prop)} {w w' : List jC} (h : SH ρ w) (hn : ∀ i, i < w.length → w'[i]? = w[i]?) : SH ρ w' := h.keep (fun i hi => hn i (h.lt hi))
theorem Fr.sb {K : Nat → Prop} {a v : Nat} {w w' w'' : List jC} (h : Fr K w w') (h' : FS a v w' w'') (ha : w.length ≤ a) (hv : w.length ≤ v) : Fr K w w'' :=
  ⟨Nat.le_trans h.1 h'.1, fun i h1 h3 => (h'.2 i (by omega) (by omega) (Nat.lt_of_lt_of_le h3 h.1)).trans (h.2 i h1 h3)⟩
theorem Fr.gr {K : Nat → Prop} {w w' w'' : List jC} (h : Fr K w w') (hl : w'.length ≤ w''.length) (hn : ∀ i, i < w'.length → w''[i]? = w'[i]?) : Fr K w w'' :=
  ⟨Nat.le_trans h.1 hl, fun i h1 h3 => (hn i (Nat.lt_of_lt_of_le h3 h.1)).trans (h.2 i h1 h3)⟩
end
