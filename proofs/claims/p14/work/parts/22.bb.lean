/-! contracts of the reference: rspec2 -/
set_option maxRecDepth 100000 in
set_option maxHeartbeats 4000000 in
theorem c_X8_sizeNow {X : jX} (hs : X.1.stackTraces = false) {d : Nat} (hd : 1 ≤ d) {n : Nat} {mv rw nx : Nat → Nat} {b : Nat} {bt : List Int32} {kn en dn rf kk th : Int32} {w : List jC} (hR : RM n mv rw nx b bt kn en dn rf kk th w) (hn1 : 2 ≤ n) (hn2 : n ≤ 7) (gm : ∀ i, mv i < 7) (gr : ∀ i, rw i < 7) (gx : ∀ i, nx i < 7) {kc ks : Nat} : jMet X mX8_sizeNow d kc ks [.ref 19] w (pI (fun v => v = nI (cnt (bitL bt) 5056)) (fun w' => w' = w)) := by
  refine jMet_of hs (by decide +kernel) (Nat.le_of_ble_eq_true rfl) (L := [some (.ref 19), none, none, none, none, none]) rfl ?_
  have hfc := fc_7 hn2
  have hfp := fc_pos n
  obtain ⟨h19, h20, h21, h22, hbb, hbl, hb3⟩ := hR
  have hF : FR b b w w := FR.rf
  refine J_iconst (pc := 0) (v := nI 0) dX8_sizeNow_0 (by decide) ?_
  refine J_istore_n (pc := 1) dX8_sizeNow_1 rfl (by decide) rfl ?_
  show J X mX8_sizeNow d kc ks 2 [some (.ref 19), some (.int (nI 0)), none, none, none, none] [] w _
  refine J_aload_n (pc := 2) dX8_sizeNow_2 rfl rfl rfl ?_
  refine J_get (pc := 3) (k := 4) dX8_sizeNow_3 kC9 (by decide) ff_X8_23 h19 rfl ?_
  refine J_astore_n (pc := 6) dX8_sizeNow_6 rfl (by decide) rfl rfl ?_
  show J X mX8_sizeNow d kc ks 7 [some (.ref 19), some (.int (nI 0)), some (.ref b), none, none, none] [] w _
  refine J_aload_n (pc := 7) dX8_sizeNow_7 rfl rfl rfl ?_
  refine J_alen (pc := 8) (n := nI 158) dX8_sizeNow_8 hbb (by decide) (by rw [hbl]; rfl) ?_
  refine J_istore_n (pc := 9) dX8_sizeNow_9 rfl (by decide) rfl ?_
  show J X mX8_sizeNow d kc ks 10 [some (.ref 19), some (.int (nI 0)), some (.ref b), some (.int (nI 158)), none, none] [] w _
  refine J_iconst (pc := 10) (v := nI 0) dX8_sizeNow_10 (by decide) ?_
  refine J_istore (pc := 11) dX8_sizeNow_11 (by decide) rfl ?_
  show J X mX8_sizeNow d kc ks 13 [some (.ref 19), some (.int (nI 0)), some (.ref b), some (.int (nI 158)), some (.int (nI 0)), none] [] w _
  have lp13_1 : ∀ (fuel : Nat) (y1 : Nat) (c4 : Nat), (y1 = cnt (bitL bt) (32 * c4)) → (c4 ≤ 158) → (158 - c4 < fuel) → J X mX8_sizeNow d kc ks 13 [some (.ref 19), some (.int (nI y1)), some (.ref b), some (.int (nI 158)), some (.int (nI c4)), none] [] w (pI (fun v => v = nI (cnt (bitL bt) 5056)) (fun w' => w' = w)) := by
    intro fuellp13_1
    induction fuellp13_1 with
    | zero => intros; omega
    | succ fuellp13_1 ihlp13_1 =>
      intro y1 c4 hv13_0 hv13_1 hf2
      refine J_iload (pc := 13) dX8_sizeNow_13 rfl ?_
      refine J_iload_n (pc := 15) dX8_sizeNow_15 rfl rfl ?_
      refine J_icmp_geN (pc := 16) (tgt := 39) dX8_sizeNow_16 (by decide) (by omega) (by omega) (fun ht3 => ?_) (fun hf4 => ?_)
      · refine J_iload_n (pc := 39) dX8_sizeNow_39 rfl rfl ?_
        exact J_iret (pc := 40) dX8_sizeNow_40 rfl ⟨(congrArg nI (by rw [hv13_0, show c4 = 158 by omega])), rfl⟩
      · refine J_aload_n (pc := 19) dX8_sizeNow_19 rfl rfl rfl ?_
        refine J_iload (pc := 20) dX8_sizeNow_20 rfl ?_
        refine J_iald (pc := 22) dX8_sizeNow_22 hbb (by rw [hbl]; exact nI_in (by omega) (by decide)) ?_
        refine J_istore (pc := 23) dX8_sizeNow_23 (by decide) rfl ?_
        show J X mX8_sizeNow d kc ks 25 [some (.ref 19), some (.int (nI y1)), some (.ref b), some (.int (nI 158)), some (.int (nI c4)), some (.int (bt.getD (nI c4).toNatClampNeg 0))] [] w _
        refine J_iload_n (pc := 25) dX8_sizeNow_25 rfl rfl ?_
        refine J_iload (pc := 26) dX8_sizeNow_26 rfl ?_
        refine J_callS0 (pc := 28) (M := mX8_sizeNow) (as := [.int (bt.getD (nI c4).toNatClampNeg 0)]) dX8_sizeNow_28 fw_J6_bitCount_0f7a4 fl_X8_96 fs_J6_bitCount_0f7a4 rfl (c_J6_bitCount_0f7a4_atx hs (d := d - 1) (by omega) (w := w) (bt.getD (nI c4).toNatClampNeg 0) (kc := 0) (ks := 0)) (by omega) (st := [.int (nI y1)]) (Nat.le_of_ble_eq_true rfl) rfl (kr_P fun v5 hv5 => ?_) kx_I
        subst hv5
        refine J_iaddN (pc := 31) dX8_sizeNow_31 ?_
        refine J_istore_n (pc := 32) dX8_sizeNow_32 rfl (by decide) rfl ?_
        show J X mX8_sizeNow d kc ks 33 [some (.ref 19), some (.int (nI (y1 + (pc32 (bt.getD (nI c4).toNatClampNeg 0))))), some (.ref b), some (.int (nI 158)), some (.int (nI c4)), some (.int (bt.getD (nI c4).toNatClampNeg 0))] [] w _
        refine J_iincN (pc := 33) (b := 1) dX8_sizeNow_33 rfl (by decide) (by decide) rfl ?_
        show J X mX8_sizeNow d kc ks 36 [some (.ref 19), some (.int (nI (y1 + (pc32 (bt.getD (nI c4).toNatClampNeg 0))))), some (.ref b), some (.int (nI 158)), some (.int (nI (c4 + 1))), some (.int (bt.getD (nI c4).toNatClampNeg 0))] [] w _
        refine J_goto (pc := 36) (tgt := 13) dX8_sizeNow_36 (by decide) ?_
        exact J_sub (L' := [some (.ref 19), some (.int (nI (y1 + (pc32 (bt.getD (nI c4).toNatClampNeg 0))))), some (.ref b), some (.int (nI 158)), some (.int (nI (c4 + 1))), none]) ⟨rfl, ⟨rfl, ⟨rfl, ⟨rfl, ⟨rfl, trivial⟩⟩⟩⟩⟩ (ihlp13_1 (y1 + (pc32 (bt.getD (nI c4).toNatClampNeg 0))) (c4 + 1) (by rw [hv13_0]; exact cnt_word bt (by omega)) (by first | assumption | omega) (by omega))
  exact J_sub (L' := [some (.ref 19), some (.int (nI 0)), some (.ref b), some (.int (nI 158)), some (.int (nI 0)), none]) ⟨rfl, ⟨rfl, ⟨rfl, ⟨rfl, ⟨rfl, trivial⟩⟩⟩⟩⟩ (lp13_1 _ 0 0 (by rfl) (by first | assumption | omega) (Nat.lt_succ_self _))
set_option maxRecDepth 100000 in
set_option maxHeartbeats 4000000 in
theorem c_X8_sizeOf {X : jX} (hs : X.1.stackTraces = false) {d : Nat} (hd : 4 ≤ d) {n : Nat} {mv rw nx : Nat → Nat} {b : Nat} {bt : List Int32} {kn en dn rf kk th : Int32} {w : List jC} (hR : RM n mv rw nx b bt kn en dn rf kk th w) (hn1 : 2 ≤ n) (hn2 : n ≤ 7) (gm : ∀ i, mv i < 7) (gr : ∀ i, rw i < 7) (gx : ∀ i, nx i < 7) (s : Nat) (hy0 : s < 64) (hy1 : PM n mv) (hy2 : KX n mv kn bt) {kc ks : Nat} (hkc : 13 ≤ kc) (hks : 2054 ≤ ks) : jMet X mX8_sizeOf d kc ks [.ref 19, .int (nI s)] w (pI (fun v => ∃ k : Nat, v = nI k ∧ 1 ≤ k ∧ k ≤ 5056) (fun w' => ∃ (rw' : Nat → Nat), ∃ (nx' : Nat → Nat), ∃ (b' : Nat), ∃ (bt' : List Int32), ∃ (kn' : Int32), ∃ (en' : Int32), RM n mv rw' nx' b' bt' kn' en' dn rf kk th w' ∧ FR b b' w w' ∧ (∀ i, rw' i < 7) ∧ (∀ i, nx' i < 7) ∧ kn' = nI s ∧ BX n mv s bt')) := by
  refine jMet_of hs (by decide +kernel) (Nat.le_of_ble_eq_true rfl) (L := [some (.ref 19), some (.int (nI s))]) rfl ?_
  have hfc := fc_7 hn2
  have hfp := fc_pos n
  obtain ⟨h19, h20, h21, h22, hbb, hbl, hb3⟩ := hR
  have hF : FR b b w w := FR.rf
  refine J_aload_n (pc := 0) dX8_sizeOf_0 rfl rfl rfl ?_
  refine J_iload_n (pc := 1) dX8_sizeOf_1 rfl rfl ?_
  refine J_callV (pc := 2) (M := mX8_sizeOf) (as := [.int (nI s)]) dX8_sizeOf_2 fw_X8_group fl_X8_99 fm_X8_group fe_X8_group h19 (by decide) rfl rfl rfl (c_X8_group_ate hs (d := d - 1) (by omega) (w := w) (n := n) (mv := mv) (rw := rw) (nx := nx) (b := b) (bt := bt) (kn := kn) (en := en) (dn := dn) (rf := rf) (kk := kk) (th := th) ⟨h19, h20, h21, h22, hbb, hbl, hb3⟩ hn1 hn2 gm gr gx s (by first | assumption | omega) (by first | assumption | omega) (by first | assumption | omega) (kc := 13) (ks := 2054) (Nat.le_refl _) (Nat.le_refl _)) (by omega) (by omega) (by omega) (st := []) (Nat.le_of_ble_eq_true rfl) rfl (kr_V fun w1 hw1 => ?_) kx_V
  obtain ⟨rw1, nx1, b1, bt1, kn1, en1, hR1, hFc1, hgrw1, hgnx1, hp1_0, hp1_1⟩ := hw1
  obtain ⟨h19_1, h20_1, h21_1, h22_1, hbb_1, hbl_1, hb3_1⟩ := hR1
  have qd1 := hFc1.2.1
  have hF1 := hF.tr hFc1
  have hbt := hp1_1
  refine J_aload_n (pc := 5) dX8_sizeOf_5 rfl rfl rfl ?_
  refine J_callV0 (pc := 6) (M := mX8_sizeOf) (as := []) dX8_sizeOf_6 fw_X8_sizeNow fl_X8_102 fm_X8_sizeNow fe_X8_sizeNow h19_1 (by decide) rfl rfl rfl (c_X8_sizeNow hs (d := d - 1) (by omega) (w := w1) (n := n) (mv := mv) (rw := rw1) (nx := nx1) (b := b1) (bt := bt1) (kn := kn1) (en := en1) (dn := dn) (rf := rf) (kk := kk) (th := th) ⟨h19_1, h20_1, h21_1, h22_1, hbb_1, hbl_1, hb3_1⟩ hn1 hn2 gm hgrw1 hgnx1  (kc := 0) (ks := 0)) (by omega) (st := []) (Nat.le_of_ble_eq_true rfl) rfl (kr_P fun v2 hv2 => ?_) kx_I
  subst hv2
  exact J_iret (pc := 9) dX8_sizeOf_9 rfl ⟨⟨cnt (bitL bt1) 5056, rfl, by exact ⟨cnt_pos 5056 0 (by decide) (BX_BT hn1 hn2 hbt).2, cnt_le _ _⟩⟩, ⟨rw1, nx1, b1, bt1, kn1, en1, ⟨h19_1, h20_1, h21_1, h22_1, hbb_1, hbl_1, hb3_1⟩, hF1, hgrw1, hgnx1, (by first | assumption | omega), (by first | assumption | omega)⟩⟩
set_option maxRecDepth 100000 in
set_option maxHeartbeats 4000000 in
theorem c_X8_from {X : jX} (hs : X.1.stackTraces = false) {d : Nat} (hd : 1 ≤ d) {n : Nat} {mv rw nx : Nat → Nat} {b : Nat} {bt : List Int32} {kn en dn rf kk th : Int32} {w : List jC} (hR : RM n mv rw nx b bt kn en dn rf kk th w) (hn1 : 2 ≤ n) (hn2 : n ≤ 7) (gm : ∀ i, mv i < 7) (gr : ∀ i, rw i < 7) (gx : ∀ i, nx i < 7) (a : Nat) (hy0 : a ≤ fc n) {kc ks : Nat} : jMet X mX8_from d kc ks [.ref 19, .int (nI a)] w (pI (fun v => (v = (-1) ∧ ∀ j, a ≤ j → j < fc n → bitL bt j = false) ∨ (∃ (q : Nat), v = nI q ∧ a ≤ q ∧ q < fc n ∧ bitL bt q = true ∧ ∀ j, a ≤ j → j < q → bitL bt j = false)) (fun w' => w' = w)) := by
  refine jMet_of hs (by decide +kernel) (Nat.le_of_ble_eq_true rfl) (L := [some (.ref 19), some (.int (nI a)), none]) rfl ?_
  have hfc := fc_7 hn2
  have hfp := fc_pos n
  obtain ⟨h19, h20, h21, h22, hbb, hbl, hb3⟩ := hR
  have hF : FR b b w w := FR.rf
  refine J_iload_n (pc := 0) dX8_from_0 rfl rfl ?_
  refine J_istore_n (pc := 1) dX8_from_1 rfl (by decide) rfl ?_
  show J X mX8_from d kc ks 2 [some (.ref 19), some (.int (nI a)), some (.int (nI a))] [] w _
  have lp2_1 : ∀ (fuel : Nat) (c2 : Nat), (a ≤ c2) → (c2 ≤ fc n) → (∀ j, a ≤ j → j < c2 → bitL bt j = false) → (fc n - c2 < fuel) → J X mX8_from d kc ks 2 [some (.ref 19), some (.int (nI a)), some (.int (nI c2))] [] w (pI (fun v => (v = (-1) ∧ ∀ j, a ≤ j → j < fc n → bitL bt j = false) ∨ (∃ (q : Nat), v = nI q ∧ a ≤ q ∧ q < fc n ∧ bitL bt q = true ∧ ∀ j, a ≤ j → j < q → bitL bt j = false)) (fun w' => w' = w)) := by
    intro fuellp2_1
    induction fuellp2_1 with
    | zero => intros; omega
    | succ fuellp2_1 ihlp2_1 =>
      intro c2 hv2_0 hv2_1 hv2_2 hf2
      refine J_iload_n (pc := 2) dX8_from_2 rfl rfl ?_
      refine J_aload_n (pc := 3) dX8_from_3 rfl rfl rfl ?_
      refine J_callV0 (pc := 4) (M := mX8_from) (as := []) dX8_from_4 fw_X8_all fl_X8_65 fm_X8_all fe_X8_all h19 (by decide) rfl rfl rfl (c_X8_all hs (d := d - 1) (by omega) (w := w) (n := n) (mv := mv) (rw := rw) (nx := nx) (b := b) (bt := bt) (kn := kn) (en := en) (dn := dn) (rf := rf) (kk := kk) (th := th) ⟨h19, h20, h21, h22, hbb, hbl, hb3⟩ hn1 hn2 gm gr gx  (kc := 0) (ks := 0)) (by omega) (st := [.int (nI c2)]) (Nat.le_of_ble_eq_true rfl) rfl (kr_P fun v3 hv3 => ?_) kx_I
      subst hv3
      refine J_icmp_geN (pc := 7) (tgt := 26) dX8_from_7 (by decide) (by omega) (by omega) (fun ht4 => ?_) (fun hf5 => ?_)
      · refine J_iconst (pc := 26) (v := (-1)) dX8_from_26 (by decide) ?_
        exact J_iret (pc := 27) dX8_from_27 rfl ⟨Or.inl ⟨rfl, (by intro j h1 h2; exact hv2_2 j h1 (by omega))⟩, rfl⟩
      · refine J_aload_n (pc := 10) dX8_from_10 rfl rfl rfl ?_
        refine J_iload_n (pc := 11) dX8_from_11 rfl rfl ?_
        refine J_callV0 (pc := 12) (M := mX8_from) (as := [.int (nI c2)]) dX8_from_12 fw_X8_isBit fl_X8_88 fm_X8_isBit fe_X8_isBit h19 (by decide) rfl rfl rfl (c_X8_isBit hs (d := d - 1) (by omega) (w := w) (n := n) (mv := mv) (rw := rw) (nx := nx) (b := b) (bt := bt) (kn := kn) (en := en) (dn := dn) (rf := rf) (kk := kk) (th := th) ⟨h19, h20, h21, h22, hbb, hbl, hb3⟩ hn1 hn2 gm gr gx c2 (by first | assumption | omega) (kc := 0) (ks := 0)) (by omega) (st := []) (Nat.le_of_ble_eq_true rfl) rfl (kr_P fun v6 hv6 => ?_) kx_I
        rcases hv6 with ⟨rfl, hk6_0⟩ | ⟨rfl, hk6_0⟩
        · refine J_if_eqN (pc := 15) (tgt := 20) dX8_from_15 (by decide) (by decide) (fun _ => ?_) (fun h => absurd h (by decide))
          refine J_iincN (pc := 20) (b := 1) dX8_from_20 rfl (by decide) (by decide) rfl ?_
          show J X mX8_from d kc ks 23 [some (.ref 19), some (.int (nI a)), some (.int (nI (c2 + 1)))] [] w _
          refine J_goto (pc := 23) (tgt := 2) dX8_from_23 (by decide) ?_
          exact J_sub (L' := [some (.ref 19), some (.int (nI a)), some (.int (nI (c2 + 1)))]) ⟨rfl, ⟨rfl, ⟨rfl, trivial⟩⟩⟩ (ihlp2_1 (c2 + 1) (by first | assumption | omega) (by first | assumption | omega) (by intro j h1 h2; by_cases e : j = c2; (subst e; assumption); (exact hv2_2 j h1 (by omega))) (by omega))
        · refine J_if_eqN (pc := 15) (tgt := 20) dX8_from_15 (by decide) (by decide) (fun h => absurd h (by decide)) (fun _ => ?_)
          refine J_iload_n (pc := 18) dX8_from_18 rfl rfl ?_
          exact J_iret (pc := 19) dX8_from_19 rfl ⟨Or.inr (⟨c2, rfl, (by first | assumption | omega | rfl), (by first | assumption | omega | rfl), (by first | assumption | omega | rfl), (by first | assumption | omega | rfl)⟩), rfl⟩
  exact J_sub (L' := [some (.ref 19), some (.int (nI a)), some (.int (nI a))]) ⟨rfl, ⟨rfl, ⟨rfl, trivial⟩⟩⟩ (lp2_1 _ a (by first | assumption | omega) (by first | assumption | omega) (by intro j h1 h2; omega) (Nat.lt_succ_self _))
