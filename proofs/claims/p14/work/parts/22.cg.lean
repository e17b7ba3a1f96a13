/-! contracts of the reference: rspec3 -/
set_option maxRecDepth 100000 in
set_option maxHeartbeats 4000000 in
theorem c_X8_count {X : jX} (hs : X.1.stackTraces = false) {d : Nat} (hd : 0 ≤ d) {n : Nat} {mv rw nx : Nat → Nat} {b : Nat} {bt : List Int32} {kn en dn rf kk th : Int32} {w : List jC} (hR : RM n mv rw nx b bt kn en dn rf kk th w) (hn1 : 2 ≤ n) (hn2 : n ≤ 7) (gm : ∀ i, mv i < 7) (gr : ∀ i, rw i < 7) (gx : ∀ i, nx i < 7) {kc ks : Nat} : jMet X mX8_count d kc ks [.ref 19] w (pI (fun v => v = nI n) (fun w' => RM n mv rw nx b bt kn en dn rf kk (nI 0) w' ∧ FR b b w w')) := by
  refine jMet_of hs (by decide +kernel) (Nat.le_of_ble_eq_true rfl) (L := [some (.ref 19)]) rfl ?_
  have hfc := fc_7 hn2
  have hfp := fc_pos n
  obtain ⟨h19, h20, h21, h22, hbb, hbl, hb3⟩ := hR
  have hF : FR b b w w := FR.rf
  refine J_aload_n (pc := 0) dX8_count_0 rfl rfl rfl ?_
  refine J_iconst (pc := 1) (v := nI 0) dX8_count_1 (by decide) ?_
  refine J_putW (pc := 2) (k := 10) dX8_count_2 kC9 (by decide) ff_X8_32 (Or.inl rfl) ⟨rfl, rfl⟩ h19 (by show 10 < 11; decide) (fun w1 hln1 hw1 hne1 => ?_)
  have h19_1 : w1[19]? = some (.inr (9, [.int (nI n), .ref 20, .ref 21, .ref 22, .ref b, .int kn, .int en, .int dn, .int rf, .int kk, .int (nI 0)])) := hw1
  have h20_1 := (hne1 20 (by omega)).trans h20
  have h21_1 := (hne1 21 (by omega)).trans h21
  have h22_1 := (hne1 22 (by omega)).trans h22
  have hb_1 := (hne1 _ (by omega)).trans hbb
  have hF1 := hF.st hln1 hne1 (Or.inl (by decide))
  refine J_aload_n (pc := 5) dX8_count_5 rfl rfl rfl ?_
  refine J_get (pc := 6) (k := 0) dX8_count_6 kC9 (by decide) ff_X8_7 h19_1 rfl ?_
  exact J_iret (pc := 9) dX8_count_9 rfl ⟨rfl, ⟨⟨h19_1, h20_1, h21_1, h22_1, hb_1, hbl, hb3⟩, hF1⟩⟩
set_option maxRecDepth 100000 in
set_option maxHeartbeats 4000000 in
theorem c_X8_staysNow {X : jX} (hs : X.1.stackTraces = false) {d : Nat} (hd : 1 ≤ d) {n : Nat} {mv rw nx : Nat → Nat} {b : Nat} {bt : List Int32} {kn en dn rf kk th : Int32} {w : List jC} (hR : RM n mv rw nx b bt kn en dn rf kk th w) (hn1 : 2 ≤ n) (hn2 : n ≤ 7) (gm : ∀ i, mv i < 7) (gr : ∀ i, rw i < 7) (gx : ∀ i, nx i < 7) (a : Nat) (hy0 : a < 6) {kc ks : Nat} : jMet X mX8_staysNow d kc ks [.ref 19, .int (nI a)] w (pI (fun _ => True) (fun w' => w' = w)) := by
  refine jMet_of hs (by decide +kernel) (Nat.le_of_ble_eq_true rfl) (L := [some (.ref 19), some (.int (nI a)), none, none]) rfl ?_
  have hfc := fc_7 hn2
  have hfp := fc_pos n
  obtain ⟨h19, h20, h21, h22, hbb, hbl, hb3⟩ := hR
  have hF : FR b b w w := FR.rf
  refine J_iconst (pc := 0) (v := nI 0) dX8_staysNow_0 (by decide) ?_
  refine J_istore_n (pc := 1) dX8_staysNow_1 rfl (by decide) rfl ?_
  show J X mX8_staysNow d kc ks 2 [some (.ref 19), some (.int (nI a)), some (.int (nI 0)), none] [] w _
  refine J_iconst (pc := 2) (v := nI 0) dX8_staysNow_2 (by decide) ?_
  refine J_istore_n (pc := 3) dX8_staysNow_3 rfl (by decide) rfl ?_
  show J X mX8_staysNow d kc ks 4 [some (.ref 19), some (.int (nI a)), some (.int (nI 0)), some (.int (nI 0))] [] w _
  have lp4_1 : ∀ (fuel : Nat) (z2 : Int32) (c3 : Nat), (c3 ≤ n) → (n - c3 < fuel) → J X mX8_staysNow d kc ks 4 [some (.ref 19), some (.int (nI a)), some (.int z2), some (.int (nI c3))] [] w (pI (fun _ => True) (fun w' => w' = w)) := by
    intro fuellp4_1
    induction fuellp4_1 with
    | zero => intros; omega
    | succ fuellp4_1 ihlp4_1 =>
      intro z2 c3 hv4_0 hf2
      refine J_iload_n (pc := 4) dX8_staysNow_4 rfl rfl ?_
      refine J_aload_n (pc := 5) dX8_staysNow_5 rfl rfl rfl ?_
      refine J_get (pc := 6) (k := 0) dX8_staysNow_6 kC9 (by decide) ff_X8_7 h19 rfl ?_
      refine J_icmp_geN (pc := 9) (tgt := 38) dX8_staysNow_9 (by decide) (by omega) (by omega) (fun ht3 => ?_) (fun hf4 => ?_)
      · refine J_iload_n (pc := 38) dX8_staysNow_38 rfl rfl ?_
        exact J_iret (pc := 39) dX8_staysNow_39 rfl ⟨trivial, rfl⟩
      · refine J_iload_n (pc := 12) dX8_staysNow_12 rfl rfl ?_
        refine J_aload_n (pc := 13) dX8_staysNow_13 rfl rfl rfl ?_
        refine J_iload_n (pc := 14) dX8_staysNow_14 rfl rfl ?_
        refine J_iload_n (pc := 15) dX8_staysNow_15 rfl rfl ?_
        refine J_callV0 (pc := 16) (M := mX8_staysNow) (as := [.int (nI a), .int (nI c3)]) dX8_staysNow_16 fw_X8_at fl_X8_82 fm_X8_at fe_X8_at h19 (by decide) rfl rfl rfl (c_X8_at hs (d := d - 1) (by omega) (w := w) (n := n) (mv := mv) (rw := rw) (nx := nx) (b := b) (bt := bt) (kn := kn) (en := en) (dn := dn) (rf := rf) (kk := kk) (th := th) ⟨h19, h20, h21, h22, hbb, hbl, hb3⟩ hn1 hn2 gm gr gx a c3 (by first | assumption | omega) (by first | assumption | omega) (kc := 0) (ks := 0)) (by omega) (st := [.int z2]) (Nat.le_of_ble_eq_true rfl) rfl (kr_P fun v5 hv5 => ?_) kx_I
        subst hv5
        have hq6 := gm (a * 7 + c3)
        refine J_iload_n (pc := 19) dX8_staysNow_19 rfl rfl ?_
        refine J_icmp_neN (pc := 20) (tgt := 27) dX8_staysNow_20 (by decide) (by omega) (by omega) (fun ht7 => ?_) (fun hf8 => ?_)
        · refine J_iconst (pc := 27) (v := nI 0) dX8_staysNow_27 (by decide) ?_
          refine J_iload_n (pc := 28) dX8_staysNow_28 rfl rfl ?_
          refine J_ishl (pc := 29) dX8_staysNow_29 (J_absI fun x9 => ?_)
          refine J_ior (pc := 30) dX8_staysNow_30 (J_absI fun x10 => ?_)
          refine J_istore_n (pc := 31) dX8_staysNow_31 rfl (by decide) rfl ?_
          show J X mX8_staysNow d kc ks 32 [some (.ref 19), some (.int (nI a)), some (.int x10), some (.int (nI c3))] [] w _
          refine J_iincN (pc := 32) (b := 1) dX8_staysNow_32 rfl (by decide) (by decide) rfl ?_
          show J X mX8_staysNow d kc ks 35 [some (.ref 19), some (.int (nI a)), some (.int x10), some (.int (nI (c3 + 1)))] [] w _
          refine J_goto (pc := 35) (tgt := 4) dX8_staysNow_35 (by decide) ?_
          exact J_sub (L' := [some (.ref 19), some (.int (nI a)), some (.int x10), some (.int (nI (c3 + 1)))]) ⟨rfl, ⟨rfl, ⟨rfl, ⟨rfl, trivial⟩⟩⟩⟩ (ihlp4_1 x10 (c3 + 1) (by first | assumption | omega) (by omega))
        · refine J_iconst (pc := 23) (v := nI 1) dX8_staysNow_23 (by decide) ?_
          refine J_goto (pc := 24) (tgt := 28) dX8_staysNow_24 (by decide) ?_
          refine J_iload_n (pc := 28) dX8_staysNow_28 rfl rfl ?_
          refine J_ishl (pc := 29) dX8_staysNow_29 (J_absI fun x11 => ?_)
          refine J_ior (pc := 30) dX8_staysNow_30 (J_absI fun x12 => ?_)
          refine J_istore_n (pc := 31) dX8_staysNow_31 rfl (by decide) rfl ?_
          show J X mX8_staysNow d kc ks 32 [some (.ref 19), some (.int (nI a)), some (.int x12), some (.int (nI c3))] [] w _
          refine J_iincN (pc := 32) (b := 1) dX8_staysNow_32 rfl (by decide) (by decide) rfl ?_
          show J X mX8_staysNow d kc ks 35 [some (.ref 19), some (.int (nI a)), some (.int x12), some (.int (nI (c3 + 1)))] [] w _
          refine J_goto (pc := 35) (tgt := 4) dX8_staysNow_35 (by decide) ?_
          exact J_sub (L' := [some (.ref 19), some (.int (nI a)), some (.int x12), some (.int (nI (c3 + 1)))]) ⟨rfl, ⟨rfl, ⟨rfl, ⟨rfl, trivial⟩⟩⟩⟩ (ihlp4_1 x12 (c3 + 1) (by first | assumption | omega) (by omega))
  exact J_sub (L' := [some (.ref 19), some (.int (nI a)), some (.int (nI 0)), some (.int (nI 0))]) ⟨rfl, ⟨rfl, ⟨rfl, ⟨rfl, trivial⟩⟩⟩⟩ (lp4_1 _ (nI 0) 0 (by first | assumption | omega) (Nat.lt_succ_self _))
set_option maxRecDepth 100000 in
set_option maxHeartbeats 4000000 in
theorem c_X8_number {X : jX} (hs : X.1.stackTraces = false) {d : Nat} (hd : 2 ≤ d) {n : Nat} {mv rw nx : Nat → Nat} {b : Nat} {bt : List Int32} {kn en dn rf kk th : Int32} {w : List jC} (hR : RM n mv rw nx b bt kn en dn rf kk th w) (hn1 : 2 ≤ n) (hn2 : n ≤ 7) (gm : ∀ i, mv i < 7) (gr : ∀ i, rw i < 7) (gx : ∀ i, nx i < 7) (a : Int32) {kc ks : Nat} : jMet X mX8_number d kc ks [.ref 19, .int a] w (pI (fun _ => True) (fun w' => ∃ (th' : Int32), RM n mv rw nx b bt kn en dn rf kk th' w' ∧ FR b b w w')) := by
  refine jMet_of hs (by decide +kernel) (Nat.le_of_ble_eq_true rfl) (L := [some (.ref 19), some (.int a)]) rfl ?_
  have hfc := fc_7 hn2
  have hfp := fc_pos n
  obtain ⟨h19, h20, h21, h22, hbb, hbl, hb3⟩ := hR
  have hF : FR b b w w := FR.rf
  refine J_aload_n (pc := 0) dX8_number_0 rfl rfl rfl ?_
  refine J_iload_n (pc := 1) dX8_number_1 rfl rfl ?_
  refine J_callS0 (pc := 2) (M := mX8_number) (as := [.int a]) dX8_number_2 fw_X8_isCell fl_X8_108 fs_X8_isCell rfl (c_X8_isCell hs (d := d - 1) (by omega) (w := w) a (kc := 0) (ks := 0)) (by omega) (st := [.ref 19]) (Nat.le_of_ble_eq_true rfl) rfl (kr_P fun v1 hv1 => ?_) kx_I
  rcases hv1 with ⟨rfl, hk1_0⟩ | ⟨q1, rfl, hk1_0, rfl⟩
  · refine J_if_neN (pc := 5) (tgt := 12) dX8_number_5 (by decide) (by decide) (fun h => absurd h (by decide)) (fun _ => ?_)
    refine J_iconst (pc := 8) (v := nI 1) dX8_number_8 (by decide) ?_
    refine J_goto (pc := 9) (tgt := 13) dX8_number_9 (by decide) ?_
    refine J_callV0 (pc := 13) (M := mX8_number) (as := [.int (nI 1)]) dX8_number_13 fw_X8_isThrown_ fl_X8_105 fm_X8_isThrown_ fe_X8_isThrown_ h19 (by decide) rfl rfl rfl (c_X8_isThrown_ hs (d := d - 1) (by omega) (w := w) (n := n) (mv := mv) (rw := rw) (nx := nx) (b := b) (bt := bt) (kn := kn) (en := en) (dn := dn) (rf := rf) (kk := kk) (th := th) ⟨h19, h20, h21, h22, hbb, hbl, hb3⟩ hn1 hn2 gm gr gx 1 (by first | assumption | omega) (kc := 0) (ks := 0)) (by omega) (st := []) (Nat.le_of_ble_eq_true rfl) rfl (kr_I fun v2 w2 hv2 hw2 => ?_) kx_I
    obtain ⟨hR2, hFc2⟩ := hw2
    obtain ⟨h19_2, h20_2, h21_2, h22_2, hbb_2, hbl_2, hb3_2⟩ := hR2
    have hF2 := hF.tr hFc2
    subst hv2
    show J X mX8_number d kc ks 16 [some (.ref 19), some (.int a)] [.int (nI 1)] w2 _
    refine J_if_eqN (pc := 16) (tgt := 23) dX8_number_16 (by decide) (by decide) (fun h => absurd h (by decide)) (fun _ => ?_)
    refine J_iconst (pc := 19) (v := nI 0) dX8_number_19 (by decide) ?_
    refine J_goto (pc := 20) (tgt := 35) dX8_number_20 (by decide) ?_
    exact J_iret (pc := 35) dX8_number_35 rfl ⟨trivial, ⟨nI (tW 1 0), ⟨h19_2, h20_2, h21_2, h22_2, hbb_2, hbl_2, hb3_2⟩, hF2⟩⟩
  · refine J_if_neN (pc := 5) (tgt := 12) dX8_number_5 (by decide) (by decide) (fun _ => ?_) (fun h => absurd h (by decide))
    refine J_iconst (pc := 12) (v := nI 0) dX8_number_12 (by decide) ?_
    refine J_callV0 (pc := 13) (M := mX8_number) (as := [.int (nI 0)]) dX8_number_13 fw_X8_isThrown_ fl_X8_105 fm_X8_isThrown_ fe_X8_isThrown_ h19 (by decide) rfl rfl rfl (c_X8_isThrown_ hs (d := d - 1) (by omega) (w := w) (n := n) (mv := mv) (rw := rw) (nx := nx) (b := b) (bt := bt) (kn := kn) (en := en) (dn := dn) (rf := rf) (kk := kk) (th := th) ⟨h19, h20, h21, h22, hbb, hbl, hb3⟩ hn1 hn2 gm gr gx 0 (by first | assumption | omega) (kc := 0) (ks := 0)) (by omega) (st := []) (Nat.le_of_ble_eq_true rfl) rfl (kr_I fun v3 w3 hv3 hw3 => ?_) kx_I
    obtain ⟨hR3, hFc3⟩ := hw3
    obtain ⟨h19_3, h20_3, h21_3, h22_3, hbb_3, hbl_3, hb3_3⟩ := hR3
    have hF3 := hF.tr hFc3
    subst hv3
    show J X mX8_number d kc ks 16 [some (.ref 19), some (.int (nI q1))] [.int (nI 0)] w3 _
    refine J_if_eqN (pc := 16) (tgt := 23) dX8_number_16 (by decide) (by decide) (fun _ => ?_) (fun h => absurd h (by decide))
    refine J_aload_n (pc := 23) dX8_number_23 rfl rfl rfl ?_
    refine J_aload_n (pc := 24) dX8_number_24 rfl rfl rfl ?_
    refine J_get (pc := 25) (k := 1) dX8_number_25 kC9 (by decide) ff_X8_13 h19_3 rfl ?_
    refine J_iload_n (pc := 28) dX8_number_28 rfl rfl ?_
    refine J_bipush (pc := 29) (v := nI 7) dX8_number_29 (by decide) ?_
    refine J_imulN (pc := 31) dX8_number_31 ?_
    refine J_callV0 (pc := 32) (M := mX8_number) (as := [.ref 20, .int (nI (q1 * 7))]) dX8_number_32 fw_X8_numberOf fl_X8_45 fm_X8_numberOf fe_X8_numberOf h19_3 (by decide) rfl rfl rfl (c_X8_numberOf_at20 hs (d := d - 1) (by omega) (w := w3) (n := n) (mv := mv) (rw := rw) (nx := nx) (b := b) (bt := bt) (kn := kn) (en := en) (dn := dn) (rf := rf) (kk := kk) (th := nI (tW 0 0)) ⟨h19_3, h20_3, h21_3, h22_3, hbb_3, hbl_3, hb3_3⟩ hn1 hn2 gm gr gx (q1 * 7) (by first | assumption | omega) (kc := 0) (ks := 0)) (by omega) (st := []) (Nat.le_of_ble_eq_true rfl) rfl (kr_P fun v4 hv4 => ?_) kx_I
    subst hv4
    have hq5 := nuF_b mv (q1 * 7) n
    exact J_iret (pc := 35) dX8_number_35 rfl ⟨trivial, ⟨nI (tW 0 0), ⟨h19_3, h20_3, h21_3, h22_3, hbb_3, hbl_3, hb3_3⟩, hF3⟩⟩
set_option maxRecDepth 100000 in
set_option maxHeartbeats 4000000 in
theorem c_X8_goes {X : jX} (hs : X.1.stackTraces = false) {d : Nat} (hd : 2 ≤ d) {n : Nat} {mv rw nx : Nat → Nat} {b : Nat} {bt : List Int32} {kn en dn rf kk th : Int32} {w : List jC} (hR : RM n mv rw nx b bt kn en dn rf kk th w) (hn1 : 2 ≤ n) (hn2 : n ≤ 7) (gm : ∀ i, mv i < 7) (gr : ∀ i, rw i < 7) (gx : ∀ i, nx i < 7) (a : Int32) (c : Int32) {kc ks : Nat} : jMet X mX8_goes d kc ks [.ref 19, .int a, .int c] w (pI (fun _ => True) (fun w' => ∃ (th' : Int32), RM n mv rw nx b bt kn en dn rf kk th' w' ∧ FR b b w w')) := by
  refine jMet_of hs (by decide +kernel) (Nat.le_of_ble_eq_true rfl) (L := [some (.ref 19), some (.int a), some (.int c)]) rfl ?_
  have hfc := fc_7 hn2
  have hfp := fc_pos n
  obtain ⟨h19, h20, h21, h22, hbb, hbl, hb3⟩ := hR
  have hF : FR b b w w := FR.rf
  refine J_aload_n (pc := 0) dX8_goes_0 rfl rfl rfl ?_
  refine J_iload_n (pc := 1) dX8_goes_1 rfl rfl ?_
  refine J_callS0 (pc := 2) (M := mX8_goes) (as := [.int a]) dX8_goes_2 fw_X8_isCell fl_X8_108 fs_X8_isCell rfl (c_X8_isCell hs (d := d - 1) (by omega) (w := w) a (kc := 0) (ks := 0)) (by omega) (st := [.ref 19]) (Nat.le_of_ble_eq_true rfl) rfl (kr_P fun v1 hv1 => ?_) kx_I
  rcases hv1 with ⟨rfl, hk1_0⟩ | ⟨q1, rfl, hk1_0, rfl⟩
  · refine J_if_eqN (pc := 5) (tgt := 16) dX8_goes_5 (by decide) (by decide) (fun _ => ?_) (fun h => absurd h (by decide))
    refine J_iconst (pc := 16) (v := nI 1) dX8_goes_16 (by decide) ?_
    refine J_goto (pc := 17) (tgt := 21) dX8_goes_17 (by decide) ?_
    refine J_callV0 (pc := 21) (M := mX8_goes) (as := [.int (nI 1)]) dX8_goes_21 fw_X8_isThrown_ fl_X8_105 fm_X8_isThrown_ fe_X8_isThrown_ h19 (by decide) rfl rfl rfl (c_X8_isThrown_ hs (d := d - 1) (by omega) (w := w) (n := n) (mv := mv) (rw := rw) (nx := nx) (b := b) (bt := bt) (kn := kn) (en := en) (dn := dn) (rf := rf) (kk := kk) (th := th) ⟨h19, h20, h21, h22, hbb, hbl, hb3⟩ hn1 hn2 gm gr gx 1 (by first | assumption | omega) (kc := 0) (ks := 0)) (by omega) (st := []) (Nat.le_of_ble_eq_true rfl) rfl (kr_I fun v2 w2 hv2 hw2 => ?_) kx_I
    obtain ⟨hR2, hFc2⟩ := hw2
    obtain ⟨h19_2, h20_2, h21_2, h22_2, hbb_2, hbl_2, hb3_2⟩ := hR2
    have hF2 := hF.tr hFc2
    subst hv2
    show J X mX8_goes d kc ks 24 [some (.ref 19), some (.int a), some (.int c)] [.int (nI 1)] w2 _
    refine J_if_eqN (pc := 24) (tgt := 31) dX8_goes_24 (by decide) (by decide) (fun h => absurd h (by decide)) (fun _ => ?_)
    refine J_iconst (pc := 27) (v := nI 0) dX8_goes_27 (by decide) ?_
    refine J_goto (pc := 28) (tgt := 37) dX8_goes_28 (by decide) ?_
    exact J_iret (pc := 37) dX8_goes_37 rfl ⟨trivial, ⟨nI (tW 1 0), ⟨h19_2, h20_2, h21_2, h22_2, hbb_2, hbl_2, hb3_2⟩, hF2⟩⟩
  · refine J_if_eqN (pc := 5) (tgt := 16) dX8_goes_5 (by decide) (by decide) (fun h => absurd h (by decide)) (fun _ => ?_)
    refine J_aload_n (pc := 8) dX8_goes_8 rfl rfl rfl ?_
    refine J_iload_n (pc := 9) dX8_goes_9 rfl rfl ?_
    refine J_callV0 (pc := 10) (M := mX8_goes) (as := [.int c]) dX8_goes_10 fw_X8_isPoint fl_X8_118 fm_X8_isPoint fe_X8_isPoint h19 (by decide) rfl rfl rfl (c_X8_isPoint hs (d := d - 1) (by omega) (w := w) (n := n) (mv := mv) (rw := rw) (nx := nx) (b := b) (bt := bt) (kn := kn) (en := en) (dn := dn) (rf := rf) (kk := kk) (th := th) ⟨h19, h20, h21, h22, hbb, hbl, hb3⟩ hn1 hn2 gm gr gx c (kc := 0) (ks := 0)) (by omega) (st := [.ref 19]) (Nat.le_of_ble_eq_true rfl) rfl (kr_P fun v3 hv3 => ?_) kx_I
    rcases hv3 with ⟨rfl, hk3_0⟩ | ⟨q3, rfl, hk3_0, rfl⟩
    · refine J_if_neN (pc := 13) (tgt := 20) dX8_goes_13 (by decide) (by decide) (fun h => absurd h (by decide)) (fun _ => ?_)
      refine J_iconst (pc := 16) (v := nI 1) dX8_goes_16 (by decide) ?_
      refine J_goto (pc := 17) (tgt := 21) dX8_goes_17 (by decide) ?_
      refine J_callV0 (pc := 21) (M := mX8_goes) (as := [.int (nI 1)]) dX8_goes_21 fw_X8_isThrown_ fl_X8_105 fm_X8_isThrown_ fe_X8_isThrown_ h19 (by decide) rfl rfl rfl (c_X8_isThrown_ hs (d := d - 1) (by omega) (w := w) (n := n) (mv := mv) (rw := rw) (nx := nx) (b := b) (bt := bt) (kn := kn) (en := en) (dn := dn) (rf := rf) (kk := kk) (th := th) ⟨h19, h20, h21, h22, hbb, hbl, hb3⟩ hn1 hn2 gm gr gx 1 (by first | assumption | omega) (kc := 0) (ks := 0)) (by omega) (st := []) (Nat.le_of_ble_eq_true rfl) rfl (kr_I fun v4 w4 hv4 hw4 => ?_) kx_I
      obtain ⟨hR4, hFc4⟩ := hw4
      obtain ⟨h19_4, h20_4, h21_4, h22_4, hbb_4, hbl_4, hb3_4⟩ := hR4
      have hF4 := hF.tr hFc4
      subst hv4
      show J X mX8_goes d kc ks 24 [some (.ref 19), some (.int (nI q1)), some (.int c)] [.int (nI 1)] w4 _
      refine J_if_eqN (pc := 24) (tgt := 31) dX8_goes_24 (by decide) (by decide) (fun h => absurd h (by decide)) (fun _ => ?_)
      refine J_iconst (pc := 27) (v := nI 0) dX8_goes_27 (by decide) ?_
      refine J_goto (pc := 28) (tgt := 37) dX8_goes_28 (by decide) ?_
      exact J_iret (pc := 37) dX8_goes_37 rfl ⟨trivial, ⟨nI (tW 1 0), ⟨h19_4, h20_4, h21_4, h22_4, hbb_4, hbl_4, hb3_4⟩, hF4⟩⟩
    · refine J_if_neN (pc := 13) (tgt := 20) dX8_goes_13 (by decide) (by decide) (fun _ => ?_) (fun h => absurd h (by decide))
      refine J_iconst (pc := 20) (v := nI 0) dX8_goes_20 (by decide) ?_
      refine J_callV0 (pc := 21) (M := mX8_goes) (as := [.int (nI 0)]) dX8_goes_21 fw_X8_isThrown_ fl_X8_105 fm_X8_isThrown_ fe_X8_isThrown_ h19 (by decide) rfl rfl rfl (c_X8_isThrown_ hs (d := d - 1) (by omega) (w := w) (n := n) (mv := mv) (rw := rw) (nx := nx) (b := b) (bt := bt) (kn := kn) (en := en) (dn := dn) (rf := rf) (kk := kk) (th := th) ⟨h19, h20, h21, h22, hbb, hbl, hb3⟩ hn1 hn2 gm gr gx 0 (by first | assumption | omega) (kc := 0) (ks := 0)) (by omega) (st := []) (Nat.le_of_ble_eq_true rfl) rfl (kr_I fun v5 w5 hv5 hw5 => ?_) kx_I
      obtain ⟨hR5, hFc5⟩ := hw5
      obtain ⟨h19_5, h20_5, h21_5, h22_5, hbb_5, hbl_5, hb3_5⟩ := hR5
      have hF5 := hF.tr hFc5
      subst hv5
      show J X mX8_goes d kc ks 24 [some (.ref 19), some (.int (nI q1)), some (.int (nI q3))] [.int (nI 0)] w5 _
      refine J_if_eqN (pc := 24) (tgt := 31) dX8_goes_24 (by decide) (by decide) (fun _ => ?_) (fun h => absurd h (by decide))
      refine J_aload_n (pc := 31) dX8_goes_31 rfl rfl rfl ?_
      refine J_iload_n (pc := 32) dX8_goes_32 rfl rfl ?_
      refine J_iload_n (pc := 33) dX8_goes_33 rfl rfl ?_
      refine J_callV0 (pc := 34) (M := mX8_goes) (as := [.int (nI q1), .int (nI q3)]) dX8_goes_34 fw_X8_at fl_X8_82 fm_X8_at fe_X8_at h19_5 (by decide) rfl rfl rfl (c_X8_at hs (d := d - 1) (by omega) (w := w5) (n := n) (mv := mv) (rw := rw) (nx := nx) (b := b) (bt := bt) (kn := kn) (en := en) (dn := dn) (rf := rf) (kk := kk) (th := nI (tW 0 0)) ⟨h19_5, h20_5, h21_5, h22_5, hbb_5, hbl_5, hb3_5⟩ hn1 hn2 gm gr gx q1 q3 (by first | assumption | omega) (by first | assumption | omega) (kc := 0) (ks := 0)) (by omega) (st := []) (Nat.le_of_ble_eq_true rfl) rfl (kr_P fun v6 hv6 => ?_) kx_I
      subst hv6
      have hq7 := gm (q1 * 7 + q3)
      exact J_iret (pc := 37) dX8_goes_37 rfl ⟨trivial, ⟨nI (tW 0 0), ⟨h19_5, h20_5, h21_5, h22_5, hbb_5, hbl_5, hb3_5⟩, hF5⟩⟩
