/-! the reference's acts, told exactly -/
set_option maxRecDepth 100000 in
set_option maxHeartbeats 4000000 in
theorem c_X8_behind_ate {X : jX} (hs : X.1.stackTraces = false) {d : Nat} (hd : 2 ≤ d) {n : Nat} {mv rw nx : Nat → Nat} {b : Nat} {bt : List Int32} {kn en dn rf kk th : Int32} {w : List jC} (hR : RM n mv rw nx b bt kn en dn rf kk th w) (hn1 : 2 ≤ n) (hn2 : n ≤ 7) (gm : ∀ i, mv i < 7) (gr : ∀ i, rw i < 7) (gx : ∀ i, nx i < 7) (a : Nat) (hy0 : a < 6) (hy1 : PM n mv) (hy2 : Pn n rw) {kc ks : Nat} : jMet X mX8_behind d kc ks [.ref 19, .int (nI a), .ref 21] w (pJ (fun v w' => ∃ (mv' : Nat → Nat), ∃ (nx' : Nat → Nat), RM n mv' rw nx' b bt (-1) en (dn + nI 1) rf kk th w' ∧ FR b b w w' ∧ (∀ i, mv' i < 7) ∧ (∀ i, nx' i < 7) ∧ PM n mv' ∧ mv' = stM mv a n (fun p => rw (mv (a * 7 + p))) ∧ v = sgv (iv mv' (a * 7) n))) := by
  refine jMet_of hs (by decide +kernel) (Nat.le_of_ble_eq_true rfl) (L := [some (.ref 19), some (.int (nI a)), some (.ref 21), none]) rfl ?_
  have hdm : 1 ≤ d - 1 := by omega
  have hdp : d - 1 + 1 ≤ d := by omega
  have hfc := fc_7 hn2
  have hfp := fc_pos n
  obtain ⟨h19, h20, h21, h22, hbb, hbl, hb3⟩ := hR
  have hF : FR b b w w := FR.rf
  refine J_iconst (pc := 0) (v := nI 0) dX8_behind_0 (by decide) ?_
  refine J_istore_n (pc := 1) dX8_behind_1 rfl (by decide) rfl ?_
  show J X mX8_behind d kc ks 2 [some (.ref 19), some (.int (nI a)), some (.ref 21), some (.int (nI 0))] [] w _
  have lp2_1 : ∀ (fuel : Nat) (w2 : List jC) (nx_2 : Nat → Nat) (c3 : Nat), (RM n mv rw nx_2 b bt kn en dn rf kk th w2) → (FR b b w w2) → (∀ i, nx_2 i < 7) → (∀ p, p < c3 → nx_2 p = rw (mv (a * 7 + p))) → (c3 ≤ n) → (n - c3 < fuel) → J X mX8_behind d kc ks 2 [some (.ref 19), some (.int (nI a)), some (.ref 21), some (.int (nI c3))] [] w2 (pJ (fun v w' => ∃ (mv' : Nat → Nat), ∃ (nx' : Nat → Nat), RM n mv' rw nx' b bt (-1) en (dn + nI 1) rf kk th w' ∧ FR b b w w' ∧ (∀ i, mv' i < 7) ∧ (∀ i, nx' i < 7) ∧ PM n mv' ∧ mv' = stM mv a n (fun p => rw (mv (a * 7 + p))) ∧ v = sgv (iv mv' (a * 7) n))) := by
    intro fuellp2_1
    induction fuellp2_1 with
    | zero => intros; omega
    | succ fuellp2_1 ihlp2_1 =>
      intro w2 nx_2 c3 hR3 hF4 gx5 hv2_0 hv2_1 hf6
      obtain ⟨h19_7, h20_7, h21_7, h22_7, hb_7, hbl_7, hb3_7⟩ := hR3
      refine J_iload_n (pc := 2) dX8_behind_2 rfl rfl ?_
      refine J_aload_n (pc := 3) dX8_behind_3 rfl rfl rfl ?_
      refine J_get (pc := 4) (k := 0) dX8_behind_4 kC9 (by decide) ff_X8_7 h19_7 rfl ?_
      refine J_icmp_geN (pc := 7) (tgt := 30) dX8_behind_7 (by decide) (by omega) (by omega) (fun ht8 => ?_) (fun hf9 => ?_)
      · have hPx := (Pn.comp (hy1 a hy0) hy2).congr (g := nx_2) (fun p hp => hv2_0 p (by omega))
        refine J_aload_n (pc := 30) dX8_behind_30 rfl rfl rfl ?_
        refine J_iload_n (pc := 31) dX8_behind_31 rfl rfl ?_
        refine J_aload_n (pc := 32) dX8_behind_32 rfl rfl rfl ?_
        refine J_get (pc := 33) (k := 3) dX8_behind_33 kC9 (by decide) ff_X8_20 h19_7 rfl ?_
        refine J_callV0 (pc := 36) (M := mX8_behind) (as := [.int (nI a), .ref 22]) dX8_behind_36 fw_X8_get fl_X8_111 fm_X8_get fe_X8_get h19_7 (by decide) rfl rfl rfl (c_X8_get_at22 hs (d := d - 1) (Nat.le_trans (by decide) hdm) (w := w2) (n := n) (mv := mv) (rw := rw) (nx := nx_2) (b := b) (bt := bt) (kn := kn) (en := en) (dn := dn) (rf := rf) (kk := kk) (th := th) ⟨h19_7, h20_7, h21_7, h22_7, hb_7, hbl_7, hb3_7⟩ hn1 hn2 gm gr gx5 a (by first | assumption | omega) (kc := 0) (ks := 0)) hdp (st := []) (Nat.le_of_ble_eq_true rfl) rfl (kr_I fun v10 w10 hv10 hw10 => ?_) kx_I
        obtain ⟨mv10, hR10, hFc10, hgmv10, hp10_0⟩ := hw10
        obtain ⟨h19_10, h20_10, h21_10, h22_10, hbb_10, hbl_10, hb3_10⟩ := hR10
        have hF10 := hF4.tr hFc10
        subst hv10
        have hgt := hp10_0
        refine J_pop (pc := 39) dX8_behind_39 rfl ?_
        refine J_aload_n (pc := 40) dX8_behind_40 rfl rfl rfl ?_
        refine J_aload_n (pc := 41) dX8_behind_41 rfl rfl rfl ?_
        refine J_get (pc := 42) (k := 1) dX8_behind_42 kC9 (by decide) ff_X8_13 h19_10 rfl ?_
        refine J_iload_n (pc := 45) dX8_behind_45 rfl rfl ?_
        refine J_bipush (pc := 46) (v := nI 7) dX8_behind_46 (by decide) ?_
        refine J_imulN (pc := 48) dX8_behind_48 ?_
        refine J_callV0 (pc := 49) (M := mX8_behind) (as := [.ref 20, .int (nI (a * 7))]) dX8_behind_49 fw_X8_signOf fl_X8_115 fm_X8_signOf fe_X8_signOf h19_10 (by decide) rfl rfl rfl (c_X8_signOf_at20x hs (d := d - 1) (Nat.le_trans (by decide) hdm) (w := w10) (n := n) (mv := mv10) (rw := rw) (nx := nx_2) (b := b) (bt := bt) (kn := (-1)) (en := en) (dn := (dn + nI 1)) (rf := rf) (kk := kk) (th := th) ⟨h19_10, h20_10, h21_10, h22_10, hbb_10, hbl_10, hb3_10⟩ hn1 hn2 hgmv10 gr gx5 (a * 7) (by first | assumption | omega) (kc := 0) (ks := 0)) hdp (st := []) (Nat.le_of_ble_eq_true rfl) rfl (kr_P fun v11 hv11 => ?_) kx_I
        have hsv := hv11
        exact J_iret (pc := 52) dX8_behind_52 rfl (⟨mv10, nx_2, ⟨h19_10, h20_10, h21_10, h22_10, hbb_10, hbl_10, hb3_10⟩, hF10, hgmv10, gx5, (by exact PM_st hn2 (by assumption) hy1 hPx), (by exact hgt.trans (stM_congr (fun p hp => hv2_0 p (by omega)))), (by exact hsv)⟩)
      · refine J_aload_n (pc := 10) dX8_behind_10 rfl rfl rfl ?_
        refine J_get (pc := 11) (k := 3) dX8_behind_11 kC9 (by decide) ff_X8_20 h19_7 rfl ?_
        refine J_iload_n (pc := 14) dX8_behind_14 rfl rfl ?_
        refine J_aload_n (pc := 15) dX8_behind_15 rfl rfl rfl ?_
        refine J_aload_n (pc := 16) dX8_behind_16 rfl rfl rfl ?_
        refine J_iload_n (pc := 17) dX8_behind_17 rfl rfl ?_
        refine J_iload_n (pc := 18) dX8_behind_18 rfl rfl ?_
        refine J_callV0 (pc := 19) (M := mX8_behind) (as := [.int (nI a), .int (nI c3)]) dX8_behind_19 fw_X8_at fl_X8_82 fm_X8_at fe_X8_at h19_7 (by decide) rfl rfl rfl (c_X8_at hs (d := d - 1) (Nat.le_trans (by decide) hdm) (w := w2) (n := n) (mv := mv) (rw := rw) (nx := nx_2) (b := b) (bt := bt) (kn := kn) (en := en) (dn := dn) (rf := rf) (kk := kk) (th := th) ⟨h19_7, h20_7, h21_7, h22_7, hb_7, hbl_7, hb3_7⟩ hn1 hn2 gm gr gx5 a c3 (by first | assumption | omega) (by first | assumption | omega) (kc := 0) (ks := 0)) hdp (st := [.ref 21, .int (nI c3), .ref 22]) (Nat.le_of_ble_eq_true rfl) rfl (kr_P fun v12 hv12 => ?_) kx_I
        subst hv12
        have hq13 := gm (a * 7 + c3)
        refine J_ialdF (pc := 22) dX8_behind_22 h21_7 (by omega) (by decide) ?_
        have hq14 := gr (mv (a * 7 + c3))
        refine J_iastF (pc := 23) dX8_behind_23 h22_7 (by omega) (by decide) (fun w15 hln15 hc15 hne15 => ?_)
        have hg15 : ∀ i, (up nx_2 c3 (rw (mv (a * 7 + c3)))) i < 7 := up_b gx5 (by omega)
        have h19_15 := (hne15 19 (by decide)).trans h19_7
        have h20_15 := (hne15 20 (by decide)).trans h20_7
        have h21_15 := (hne15 21 (by decide)).trans h21_7
        have hb_15 := (hne15 _ (Nat.ne_of_gt (Nat.lt_of_lt_of_le (by decide) hb3_7))).trans hb_7
        have hF15 := hF4.st hln15 hne15 (Or.inl (by decide))
        refine J_iincN (pc := 24) (b := 1) dX8_behind_24 rfl (by decide) (by decide) rfl ?_
        show J X mX8_behind d kc ks 27 [some (.ref 19), some (.int (nI a)), some (.ref 21), some (.int (nI (c3 + 1)))] [] w15 _
        refine J_goto (pc := 27) (tgt := 2) dX8_behind_27 (by decide) ?_
        exact J_sub (L' := [some (.ref 19), some (.int (nI a)), some (.ref 21), some (.int (nI (c3 + 1)))]) ⟨rfl, ⟨rfl, ⟨rfl, ⟨rfl, trivial⟩⟩⟩⟩ (ihlp2_1 w15 (up nx_2 c3 (rw (mv (a * 7 + c3)))) (c3 + 1) ⟨h19_15, h20_15, h21_15, hc15, hb_15, hbl_7, hb3_7⟩ hF15 hg15 (by intro p hp; by_cases e : p = c3; (subst e; exact up_s _ _ _); (rw [up_n e]; exact hv2_0 p (by omega))) (by first | assumption | omega) (by omega))
  exact J_sub (L' := [some (.ref 19), some (.int (nI a)), some (.ref 21), some (.int (nI 0))]) ⟨rfl, ⟨rfl, ⟨rfl, ⟨rfl, trivial⟩⟩⟩⟩ (lp2_1 _ w nx 0 ⟨h19, h20, h21, h22, hbb, hbl, hb3⟩ hF gx (by intro p hp; omega) (by first | assumption | omega) (Nat.lt_succ_self _))
set_option maxRecDepth 100000 in
set_option maxHeartbeats 4000000 in
theorem c_X8_exchange_ate {X : jX} (hs : X.1.stackTraces = false) {d : Nat} (hd : 3 ≤ d) {n : Nat} {mv rw nx : Nat → Nat} {b : Nat} {bt : List Int32} {kn en dn rf kk th : Int32} {w : List jC} (hR : RM n mv rw nx b bt kn en dn rf kk th w) (hn1 : 2 ≤ n) (hn2 : n ≤ 7) (gm : ∀ i, mv i < 7) (gr : ∀ i, rw i < 7) (gx : ∀ i, nx i < 7) (a : Int32) (c : Int32) (e : Int32) (hy0 : PM n mv) (hy1 : KB n kn bt) {kc ks : Nat} : jMet X mX8_exchange d kc ks [.ref 19, .int a, .int c, .int e] w (pJ (fun v w' => ∃ (mv' : Nat → Nat), ∃ (rw' : Nat → Nat), ∃ (nx' : Nat → Nat), ∃ (kn' : Int32), ∃ (dn' : Int32), ∃ (th' : Int32), RM n mv' rw' nx' b bt kn' en dn' rf kk th' w' ∧ FR b b w w' ∧ (∀ i, mv' i < 7) ∧ (∀ i, rw' i < 7) ∧ (∀ i, nx' i < 7) ∧ PM n mv' ∧ KB n kn' bt ∧ ((th' = nI 1 ∧ ¬ (isN a 6 ∧ isN c n ∧ isN e n) ∧ mv' = mv ∧ kn' = kn ∧ dn' = dn) ∨ (th' = nI 0 ∧ (∃ a1 b1 c1 : Nat, a = nI a1 ∧ c = nI b1 ∧ e = nI c1 ∧ a1 < 6 ∧ b1 < n ∧ c1 < n ∧ ACT n mv a1 (fun p => sw2 b1 c1 (mv (a1 * 7 + p))) mv' ∧ v = sgv (iv mv' (a1 * 7) n)) ∧ kn' = (-1) ∧ dn' = (dn + nI 1))))) := by
  refine jMet_of hs (by decide +kernel) (Nat.le_of_ble_eq_true rfl) (L := [some (.ref 19), some (.int a), some (.int c), some (.int e)]) rfl ?_
  have hdm : 2 ≤ d - 1 := by omega
  have hdp : d - 1 + 1 ≤ d := by omega
  have hfc := fc_7 hn2
  have hfp := fc_pos n
  obtain ⟨h19, h20, h21, h22, hbb, hbl, hb3⟩ := hR
  have hF : FR b b w w := FR.rf
  refine J_aload_n (pc := 0) dX8_exchange_0 rfl rfl rfl ?_
  refine J_iload_n (pc := 1) dX8_exchange_1 rfl rfl ?_
  refine J_callS0 (pc := 2) (M := mX8_exchange) (as := [.int a]) dX8_exchange_2 fw_X8_isCell fl_X8_108 fs_X8_isCell rfl (c_X8_isCell hs (d := d - 1) (Nat.le_trans (by decide) hdm) (w := w) a (kc := 0) (ks := 0)) hdp (st := [.ref 19]) (Nat.le_of_ble_eq_true rfl) rfl (kr_P fun v1 hv1 => ?_) kx_I
  rcases hv1 with ⟨rfl, hk1_0⟩ | ⟨q1, rfl, hk1_0, rfl⟩
  · refine J_if_eqN (pc := 5) (tgt := 24) dX8_exchange_5 (by decide) (by decide) (fun _ => ?_) (fun h => absurd h (by decide))
    refine J_iconst (pc := 24) (v := nI 1) dX8_exchange_24 (by decide) ?_
    refine J_goto (pc := 25) (tgt := 29) dX8_exchange_25 (by decide) ?_
    refine J_callV0 (pc := 29) (M := mX8_exchange) (as := [.int (nI 1)]) dX8_exchange_29 fw_X8_isThrown_ fl_X8_105 fm_X8_isThrown_ fe_X8_isThrown_ h19 (by decide) rfl rfl rfl (c_X8_isThrown_ hs (d := d - 1) (Nat.le_trans (by decide) hdm) (w := w) (n := n) (mv := mv) (rw := rw) (nx := nx) (b := b) (bt := bt) (kn := kn) (en := en) (dn := dn) (rf := rf) (kk := kk) (th := th) ⟨h19, h20, h21, h22, hbb, hbl, hb3⟩ hn1 hn2 gm gr gx 1 (by first | assumption | omega) (kc := 0) (ks := 0)) hdp (st := []) (Nat.le_of_ble_eq_true rfl) rfl (kr_I fun v2 w2 hv2 hw2 => ?_) kx_I
    obtain ⟨hR2, hFc2⟩ := hw2
    obtain ⟨h19_2, h20_2, h21_2, h22_2, hbb_2, hbl_2, hb3_2⟩ := hR2
    have hF2 := hF.tr hFc2
    subst hv2
    show J X mX8_exchange d kc ks 32 [some (.ref 19), some (.int a), some (.int c), some (.int e)] [.int (nI 1)] w2 _
    refine J_if_eqN (pc := 32) (tgt := 37) dX8_exchange_32 (by decide) (by decide) (fun h => absurd h (by decide)) (fun _ => ?_)
    refine J_iconst (pc := 35) (v := nI 0) dX8_exchange_35 (by decide) ?_
    exact J_iret (pc := 36) dX8_exchange_36 rfl (⟨mv, rw, nx, kn, dn, nI (tW 1 0), ⟨h19_2, h20_2, h21_2, h22_2, hbb_2, hbl_2, hb3_2⟩, hF2, gm, gr, gx, (by first | assumption | exact PM_st hn2 (by assumption) (by assumption) (by assumption)), (by first | assumption | exact Or.inl rfl), (by first | exact Or.inl ⟨rfl, fun g => (by first | exact ne_isN (by assumption) g | exact ne_isN (by assumption) g.1 | exact ne_isN (by assumption) g.2 | exact ne_isN (by assumption) g.2.1 | exact ne_isN (by assumption) g.2.2 | exact ne_isN (by assumption) g.2.2.1 | exact ne_isN (by assumption) g.2.2.2), rfl, rfl, rfl⟩ | exact Or.inr (⟨rfl, ⟨_, _, _, rfl, rfl, rfl, by omega, by omega, by omega, ACT_of hn2 hbe (fun p hp => sw2_is hst ((hy0 _ (by omega)).1 p hp)), hbv⟩, rfl, rfl⟩))⟩)
  · refine J_if_eqN (pc := 5) (tgt := 24) dX8_exchange_5 (by decide) (by decide) (fun h => absurd h (by decide)) (fun _ => ?_)
    refine J_aload_n (pc := 8) dX8_exchange_8 rfl rfl rfl ?_
    refine J_iload_n (pc := 9) dX8_exchange_9 rfl rfl ?_
    refine J_callV0 (pc := 10) (M := mX8_exchange) (as := [.int c]) dX8_exchange_10 fw_X8_isPoint fl_X8_118 fm_X8_isPoint fe_X8_isPoint h19 (by decide) rfl rfl rfl (c_X8_isPoint hs (d := d - 1) (Nat.le_trans (by decide) hdm) (w := w) (n := n) (mv := mv) (rw := rw) (nx := nx) (b := b) (bt := bt) (kn := kn) (en := en) (dn := dn) (rf := rf) (kk := kk) (th := th) ⟨h19, h20, h21, h22, hbb, hbl, hb3⟩ hn1 hn2 gm gr gx c (kc := 0) (ks := 0)) hdp (st := [.ref 19]) (Nat.le_of_ble_eq_true rfl) rfl (kr_P fun v3 hv3 => ?_) kx_I
    rcases hv3 with ⟨rfl, hk3_0⟩ | ⟨q3, rfl, hk3_0, rfl⟩
    · refine J_if_eqN (pc := 13) (tgt := 24) dX8_exchange_13 (by decide) (by decide) (fun _ => ?_) (fun h => absurd h (by decide))
      refine J_iconst (pc := 24) (v := nI 1) dX8_exchange_24 (by decide) ?_
      refine J_goto (pc := 25) (tgt := 29) dX8_exchange_25 (by decide) ?_
      refine J_callV0 (pc := 29) (M := mX8_exchange) (as := [.int (nI 1)]) dX8_exchange_29 fw_X8_isThrown_ fl_X8_105 fm_X8_isThrown_ fe_X8_isThrown_ h19 (by decide) rfl rfl rfl (c_X8_isThrown_ hs (d := d - 1) (Nat.le_trans (by decide) hdm) (w := w) (n := n) (mv := mv) (rw := rw) (nx := nx) (b := b) (bt := bt) (kn := kn) (en := en) (dn := dn) (rf := rf) (kk := kk) (th := th) ⟨h19, h20, h21, h22, hbb, hbl, hb3⟩ hn1 hn2 gm gr gx 1 (by first | assumption | omega) (kc := 0) (ks := 0)) hdp (st := []) (Nat.le_of_ble_eq_true rfl) rfl (kr_I fun v4 w4 hv4 hw4 => ?_) kx_I
      obtain ⟨hR4, hFc4⟩ := hw4
      obtain ⟨h19_4, h20_4, h21_4, h22_4, hbb_4, hbl_4, hb3_4⟩ := hR4
      have hF4 := hF.tr hFc4
      subst hv4
      show J X mX8_exchange d kc ks 32 [some (.ref 19), some (.int (nI q1)), some (.int c), some (.int e)] [.int (nI 1)] w4 _
      refine J_if_eqN (pc := 32) (tgt := 37) dX8_exchange_32 (by decide) (by decide) (fun h => absurd h (by decide)) (fun _ => ?_)
      refine J_iconst (pc := 35) (v := nI 0) dX8_exchange_35 (by decide) ?_
      exact J_iret (pc := 36) dX8_exchange_36 rfl (⟨mv, rw, nx, kn, dn, nI (tW 1 0), ⟨h19_4, h20_4, h21_4, h22_4, hbb_4, hbl_4, hb3_4⟩, hF4, gm, gr, gx, (by first | assumption | exact PM_st hn2 (by assumption) (by assumption) (by assumption)), (by first | assumption | exact Or.inl rfl), (by first | exact Or.inl ⟨rfl, fun g => (by first | exact ne_isN (by assumption) g | exact ne_isN (by assumption) g.1 | exact ne_isN (by assumption) g.2 | exact ne_isN (by assumption) g.2.1 | exact ne_isN (by assumption) g.2.2 | exact ne_isN (by assumption) g.2.2.1 | exact ne_isN (by assumption) g.2.2.2), rfl, rfl, rfl⟩ | exact Or.inr (⟨rfl, ⟨_, _, _, rfl, rfl, rfl, by omega, by omega, by omega, ACT_of hn2 hbe (fun p hp => sw2_is hst ((hy0 _ (by omega)).1 p hp)), hbv⟩, rfl, rfl⟩))⟩)
    · refine J_if_eqN (pc := 13) (tgt := 24) dX8_exchange_13 (by decide) (by decide) (fun h => absurd h (by decide)) (fun _ => ?_)
      refine J_aload_n (pc := 16) dX8_exchange_16 rfl rfl rfl ?_
      refine J_iload_n (pc := 17) dX8_exchange_17 rfl rfl ?_
      refine J_callV0 (pc := 18) (M := mX8_exchange) (as := [.int e]) dX8_exchange_18 fw_X8_isPoint fl_X8_118 fm_X8_isPoint fe_X8_isPoint h19 (by decide) rfl rfl rfl (c_X8_isPoint hs (d := d - 1) (Nat.le_trans (by decide) hdm) (w := w) (n := n) (mv := mv) (rw := rw) (nx := nx) (b := b) (bt := bt) (kn := kn) (en := en) (dn := dn) (rf := rf) (kk := kk) (th := th) ⟨h19, h20, h21, h22, hbb, hbl, hb3⟩ hn1 hn2 gm gr gx e (kc := 0) (ks := 0)) hdp (st := [.ref 19]) (Nat.le_of_ble_eq_true rfl) rfl (kr_P fun v5 hv5 => ?_) kx_I
      rcases hv5 with ⟨rfl, hk5_0⟩ | ⟨q5, rfl, hk5_0, rfl⟩
      · refine J_if_neN (pc := 21) (tgt := 28) dX8_exchange_21 (by decide) (by decide) (fun h => absurd h (by decide)) (fun _ => ?_)
        refine J_iconst (pc := 24) (v := nI 1) dX8_exchange_24 (by decide) ?_
        refine J_goto (pc := 25) (tgt := 29) dX8_exchange_25 (by decide) ?_
        refine J_callV0 (pc := 29) (M := mX8_exchange) (as := [.int (nI 1)]) dX8_exchange_29 fw_X8_isThrown_ fl_X8_105 fm_X8_isThrown_ fe_X8_isThrown_ h19 (by decide) rfl rfl rfl (c_X8_isThrown_ hs (d := d - 1) (Nat.le_trans (by decide) hdm) (w := w) (n := n) (mv := mv) (rw := rw) (nx := nx) (b := b) (bt := bt) (kn := kn) (en := en) (dn := dn) (rf := rf) (kk := kk) (th := th) ⟨h19, h20, h21, h22, hbb, hbl, hb3⟩ hn1 hn2 gm gr gx 1 (by first | assumption | omega) (kc := 0) (ks := 0)) hdp (st := []) (Nat.le_of_ble_eq_true rfl) rfl (kr_I fun v6 w6 hv6 hw6 => ?_) kx_I
        obtain ⟨hR6, hFc6⟩ := hw6
        obtain ⟨h19_6, h20_6, h21_6, h22_6, hbb_6, hbl_6, hb3_6⟩ := hR6
        have hF6 := hF.tr hFc6
        subst hv6
        show J X mX8_exchange d kc ks 32 [some (.ref 19), some (.int (nI q1)), some (.int (nI q3)), some (.int e)] [.int (nI 1)] w6 _
        refine J_if_eqN (pc := 32) (tgt := 37) dX8_exchange_32 (by decide) (by decide) (fun h => absurd h (by decide)) (fun _ => ?_)
        refine J_iconst (pc := 35) (v := nI 0) dX8_exchange_35 (by decide) ?_
        exact J_iret (pc := 36) dX8_exchange_36 rfl (⟨mv, rw, nx, kn, dn, nI (tW 1 0), ⟨h19_6, h20_6, h21_6, h22_6, hbb_6, hbl_6, hb3_6⟩, hF6, gm, gr, gx, (by first | assumption | exact PM_st hn2 (by assumption) (by assumption) (by assumption)), (by first | assumption | exact Or.inl rfl), (by first | exact Or.inl ⟨rfl, fun g => (by first | exact ne_isN (by assumption) g | exact ne_isN (by assumption) g.1 | exact ne_isN (by assumption) g.2 | exact ne_isN (by assumption) g.2.1 | exact ne_isN (by assumption) g.2.2 | exact ne_isN (by assumption) g.2.2.1 | exact ne_isN (by assumption) g.2.2.2), rfl, rfl, rfl⟩ | exact Or.inr (⟨rfl, ⟨_, _, _, rfl, rfl, rfl, by omega, by omega, by omega, ACT_of hn2 hbe (fun p hp => sw2_is hst ((hy0 _ (by omega)).1 p hp)), hbv⟩, rfl, rfl⟩))⟩)
      · refine J_if_neN (pc := 21) (tgt := 28) dX8_exchange_21 (by decide) (by decide) (fun _ => ?_) (fun h => absurd h (by decide))
        refine J_iconst (pc := 28) (v := nI 0) dX8_exchange_28 (by decide) ?_
        refine J_callV0 (pc := 29) (M := mX8_exchange) (as := [.int (nI 0)]) dX8_exchange_29 fw_X8_isThrown_ fl_X8_105 fm_X8_isThrown_ fe_X8_isThrown_ h19 (by decide) rfl rfl rfl (c_X8_isThrown_ hs (d := d - 1) (Nat.le_trans (by decide) hdm) (w := w) (n := n) (mv := mv) (rw := rw) (nx := nx) (b := b) (bt := bt) (kn := kn) (en := en) (dn := dn) (rf := rf) (kk := kk) (th := th) ⟨h19, h20, h21, h22, hbb, hbl, hb3⟩ hn1 hn2 gm gr gx 0 (by first | assumption | omega) (kc := 0) (ks := 0)) hdp (st := []) (Nat.le_of_ble_eq_true rfl) rfl (kr_I fun v7 w7 hv7 hw7 => ?_) kx_I
        obtain ⟨hR7, hFc7⟩ := hw7
        obtain ⟨h19_7, h20_7, h21_7, h22_7, hbb_7, hbl_7, hb3_7⟩ := hR7
        have hF7 := hF.tr hFc7
        subst hv7
        show J X mX8_exchange d kc ks 32 [some (.ref 19), some (.int (nI q1)), some (.int (nI q3)), some (.int (nI q5))] [.int (nI 0)] w7 _
        refine J_if_eqN (pc := 32) (tgt := 37) dX8_exchange_32 (by decide) (by decide) (fun _ => ?_) (fun h => absurd h (by decide))
        refine J_aload_n (pc := 37) dX8_exchange_37 rfl rfl rfl ?_
        refine J_callV0 (pc := 38) (M := mX8_exchange) (as := []) dX8_exchange_38 fw_X8_stillRow fl_X8_121 fm_X8_stillRow fe_X8_stillRow h19_7 (by decide) rfl rfl rfl (c_X8_stillRow hs (d := d - 1) (Nat.le_trans (by decide) hdm) (w := w7) (n := n) (mv := mv) (rw := rw) (nx := nx) (b := b) (bt := bt) (kn := kn) (en := en) (dn := dn) (rf := rf) (kk := kk) (th := nI (tW 0 0)) ⟨h19_7, h20_7, h21_7, h22_7, hbb_7, hbl_7, hb3_7⟩ hn1 hn2 gm gr gx  (kc := 0) (ks := 0)) hdp (st := []) (Nat.le_of_ble_eq_true rfl) rfl (kr_V fun w8 hw8 => ?_) kx_V
        obtain ⟨rw8, hR8, hFc8, hgrw8, hp8_0⟩ := hw8
        obtain ⟨h19_8, h20_8, h21_8, h22_8, hbb_8, hbl_8, hb3_8⟩ := hR8
        have hF8 := hF7.tr hFc8
        have hst := hp8_0
        refine J_aload_n (pc := 41) dX8_exchange_41 rfl rfl rfl ?_
        refine J_get (pc := 42) (k := 2) dX8_exchange_42 kC9 (by decide) ff_X8_17 h19_8 rfl ?_
        refine J_iload_n (pc := 45) dX8_exchange_45 rfl rfl ?_
        refine J_iload_n (pc := 46) dX8_exchange_46 rfl rfl ?_
        refine J_iastF (pc := 47) dX8_exchange_47 h21_8 (by omega) (by decide) (fun w9 hln9 hc9 hne9 => ?_)
        have hg9 : ∀ i, (up rw8 q3 q5) i < 7 := up_b hgrw8 (by omega)
        have h19_9 := (hne9 19 (by decide)).trans h19_8
        have h20_9 := (hne9 20 (by decide)).trans h20_8
        have h22_9 := (hne9 22 (by decide)).trans h22_8
        have hb_9 := (hne9 _ (Nat.ne_of_gt (Nat.lt_of_lt_of_le (by decide) hb3_8))).trans hbb_8
        have hF9 := hF8.st hln9 hne9 (Or.inl (by decide))
        refine J_aload_n (pc := 48) dX8_exchange_48 rfl rfl rfl ?_
        refine J_get (pc := 49) (k := 2) dX8_exchange_49 kC9 (by decide) ff_X8_17 h19_9 rfl ?_
        refine J_iload_n (pc := 52) dX8_exchange_52 rfl rfl ?_
        refine J_iload_n (pc := 53) dX8_exchange_53 rfl rfl ?_
        refine J_iastF (pc := 54) dX8_exchange_54 hc9 (by omega) (by decide) (fun w10 hln10 hc10 hne10 => ?_)
        have hg10 : ∀ i, (up (up rw8 q3 q5) q5 q3) i < 7 := up_b hg9 (by omega)
        have h19_10 := (hne10 19 (by decide)).trans h19_9
        have h20_10 := (hne10 20 (by decide)).trans h20_9
        have h22_10 := (hne10 22 (by decide)).trans h22_9
        have hb_10 := (hne10 _ (Nat.ne_of_gt (Nat.lt_of_lt_of_le (by decide) hb3_8))).trans hb_9
        have hF10 := hF9.st hln10 hne10 (Or.inl (by decide))
        have hPr := Pn_swap (u := q3) (v := q5) hst (by omega) (by omega)
        refine J_aload_n (pc := 55) dX8_exchange_55 rfl rfl rfl ?_
        refine J_iload_n (pc := 56) dX8_exchange_56 rfl rfl ?_
        refine J_aload_n (pc := 57) dX8_exchange_57 rfl rfl rfl ?_
        refine J_get (pc := 58) (k := 2) dX8_exchange_58 kC9 (by decide) ff_X8_17 h19_10 rfl ?_
        refine J_callV0 (pc := 61) (M := mX8_exchange) (as := [.int (nI q1), .ref 21]) dX8_exchange_61 fw_X8_behind fl_X8_124 fm_X8_behind fe_X8_behind h19_10 (by decide) rfl rfl rfl (c_X8_behind_ate hs (d := d - 1) (Nat.le_trans (by decide) hdm) (w := w10) (n := n) (mv := mv) (rw := up (up rw8 q3 q5) q5 q3) (nx := nx) (b := b) (bt := bt) (kn := kn) (en := en) (dn := dn) (rf := rf) (kk := kk) (th := nI (tW 0 0)) ⟨h19_10, h20_10, hc10, h22_10, hb_10, hbl_8, hb3_8⟩ hn1 hn2 gm hg10 gx q1 (by first | assumption | omega) (by first | assumption | omega) (by first | assumption | omega) (kc := 0) (ks := 0)) hdp (st := []) (Nat.le_of_ble_eq_true rfl) rfl (kr_J fun v11 w11 hw11 => ?_) kx_J
        obtain ⟨mv11, nx11, hR11, hFc11, hgmv11, hgnx11, hp11_0, hp11_1, hp11_2⟩ := hw11
        obtain ⟨h19_11, h20_11, h21_11, h22_11, hbb_11, hbl_11, hb3_11⟩ := hR11
        have hF11 := hF10.tr hFc11
        have hbe := hp11_1
        have hbv := hp11_2
        exact J_iret (pc := 64) dX8_exchange_64 rfl (⟨mv11, up (up rw8 q3 q5) q5 q3, nx11, (-1), (dn + nI 1), nI (tW 0 0), ⟨h19_11, h20_11, h21_11, h22_11, hbb_11, hbl_11, hb3_11⟩, hF11, hgmv11, hg10, hgnx11, (by first | assumption | exact PM_st hn2 (by assumption) (by assumption) (by assumption)), (by first | assumption | exact Or.inl rfl), (by first | exact Or.inl ⟨rfl, fun g => (by first | exact ne_isN (by assumption) g | exact ne_isN (by assumption) g.1 | exact ne_isN (by assumption) g.2 | exact ne_isN (by assumption) g.2.1 | exact ne_isN (by assumption) g.2.2 | exact ne_isN (by assumption) g.2.2.1 | exact ne_isN (by assumption) g.2.2.2), rfl, rfl, rfl⟩ | exact Or.inr (⟨rfl, ⟨_, _, _, rfl, rfl, rfl, by omega, by omega, by omega, ACT_of hn2 hbe (fun p hp => sw2_is hst ((hy0 _ (by omega)).1 p hp)), hbv⟩, rfl, rfl⟩))⟩)
set_option maxRecDepth 100000 in
set_option maxHeartbeats 4000000 in
theorem c_X8_ring_ate {X : jX} (hs : X.1.stackTraces = false) {d : Nat} (hd : 3 ≤ d) {n : Nat} {mv rw nx : Nat → Nat} {b : Nat} {bt : List Int32} {kn en dn rf kk th : Int32} {w : List jC} (hR : RM n mv rw nx b bt kn en dn rf kk th w) (hn1 : 2 ≤ n) (hn2 : n ≤ 7) (gm : ∀ i, mv i < 7) (gr : ∀ i, rw i < 7) (gx : ∀ i, nx i < 7) (a : Int32) (c : Int32) (e : Int32) (f : Int32) (hy0 : PM n mv) (hy1 : KB n kn bt) {kc ks : Nat} : jMet X mX8_ring d kc ks [.ref 19, .int a, .int c, .int e, .int f] w (pJ (fun v w' => ∃ (mv' : Nat → Nat), ∃ (rw' : Nat → Nat), ∃ (nx' : Nat → Nat), ∃ (kn' : Int32), ∃ (dn' : Int32), ∃ (th' : Int32), RM n mv' rw' nx' b bt kn' en dn' rf kk th' w' ∧ FR b b w w' ∧ (∀ i, mv' i < 7) ∧ (∀ i, rw' i < 7) ∧ (∀ i, nx' i < 7) ∧ PM n mv' ∧ KB n kn' bt ∧ ((th' = nI 1 ∧ ¬ (isN a 6 ∧ isN c n ∧ isN e n ∧ isN f n) ∧ mv' = mv ∧ kn' = kn ∧ dn' = dn) ∨ (th' = nI 2 ∧ (isN a 6 ∧ isN c n ∧ isN e n ∧ isN f n) ∧ ¬ (c ≠ e ∧ e ≠ f ∧ f ≠ c) ∧ mv' = mv ∧ kn' = kn ∧ dn' = dn) ∨ (th' = nI 0 ∧ (∃ a1 b1 c1 f1 : Nat, a = nI a1 ∧ c = nI b1 ∧ e = nI c1 ∧ f = nI f1 ∧ a1 < 6 ∧ b1 < n ∧ c1 < n ∧ f1 < n ∧ b1 ≠ c1 ∧ c1 ≠ f1 ∧ f1 ≠ b1 ∧ ACT n mv a1 (fun p => sw3 b1 c1 f1 (mv (a1 * 7 + p))) mv' ∧ v = sgv (iv mv' (a1 * 7) n)) ∧ kn' = (-1) ∧ dn' = (dn + nI 1))))) := by
  refine jMet_of hs (by decide +kernel) (Nat.le_of_ble_eq_true rfl) (L := [some (.ref 19), some (.int a), some (.int c), some (.int e), some (.int f)]) rfl ?_
  have hdm : 2 ≤ d - 1 := by omega
  have hdp : d - 1 + 1 ≤ d := by omega
  have hfc := fc_7 hn2
  have hfp := fc_pos n
  obtain ⟨h19, h20, h21, h22, hbb, hbl, hb3⟩ := hR
  have hF : FR b b w w := FR.rf
  refine J_aload_n (pc := 0) dX8_ring_0 rfl rfl rfl ?_
  refine J_iload_n (pc := 1) dX8_ring_1 rfl rfl ?_
  refine J_callS0 (pc := 2) (M := mX8_ring) (as := [.int a]) dX8_ring_2 fw_X8_isCell fl_X8_108 fs_X8_isCell rfl (c_X8_isCell hs (d := d - 1) (Nat.le_trans (by decide) hdm) (w := w) a (kc := 0) (ks := 0)) hdp (st := [.ref 19]) (Nat.le_of_ble_eq_true rfl) rfl (kr_P fun v1 hv1 => ?_) kx_I
  rcases hv1 with ⟨rfl, hk1_0⟩ | ⟨q1, rfl, hk1_0, rfl⟩
  · refine J_if_eqN (pc := 5) (tgt := 33) dX8_ring_5 (by decide) (by decide) (fun _ => ?_) (fun h => absurd h (by decide))
    refine J_iconst (pc := 33) (v := nI 1) dX8_ring_33 (by decide) ?_
    refine J_goto (pc := 34) (tgt := 38) dX8_ring_34 (by decide) ?_
    refine J_iload_n (pc := 38) dX8_ring_38 rfl rfl ?_
    refine J_iload_n (pc := 39) dX8_ring_39 rfl rfl ?_
    refine J_icmp_eq (pc := 40) (tgt := 55) dX8_ring_40 (by decide) (fun ht2 => ?_) (fun hf3 => ?_)
    · refine J_iconst (pc := 55) (v := nI 1) dX8_ring_55 (by decide) ?_
      refine J_goto (pc := 56) (tgt := 60) dX8_ring_56 (by decide) ?_
      refine J_callV0 (pc := 60) (M := mX8_ring) (as := [.int (nI 1), .int (nI 1)]) dX8_ring_60 fw_X8_isThrown fl_X8_35 fm_X8_isThrown fe_X8_isThrown h19 (by decide) rfl rfl rfl (c_X8_isThrown hs (d := d - 1) (Nat.le_trans (by decide) hdm) (w := w) (n := n) (mv := mv) (rw := rw) (nx := nx) (b := b) (bt := bt) (kn := kn) (en := en) (dn := dn) (rf := rf) (kk := kk) (th := th) ⟨h19, h20, h21, h22, hbb, hbl, hb3⟩ hn1 hn2 gm gr gx 1 1 (by first | assumption | omega) (by first | assumption | omega) (kc := 0) (ks := 0)) hdp (st := []) (Nat.le_of_ble_eq_true rfl) rfl (kr_I fun v4 w4 hv4 hw4 => ?_) kx_I
      obtain ⟨hR4, hFc4⟩ := hw4
      obtain ⟨h19_4, h20_4, h21_4, h22_4, hbb_4, hbl_4, hb3_4⟩ := hR4
      have hF4 := hF.tr hFc4
      subst hv4
      show J X mX8_ring d kc ks 63 [some (.ref 19), some (.int a), some (.int c), some (.int e), some (.int f)] [.int (nI 1)] w4 _
      refine J_if_eqN (pc := 63) (tgt := 68) dX8_ring_63 (by decide) (by decide) (fun h => absurd h (by decide)) (fun _ => ?_)
      refine J_iconst (pc := 66) (v := nI 0) dX8_ring_66 (by decide) ?_
      exact J_iret (pc := 67) dX8_ring_67 rfl (⟨mv, rw, nx, kn, dn, nI (tW 1 1), ⟨h19_4, h20_4, h21_4, h22_4, hbb_4, hbl_4, hb3_4⟩, hF4, gm, gr, gx, (by first | assumption | exact PM_st hn2 (by assumption) (by assumption) (by assumption)), (by first | assumption | exact Or.inl rfl), (by first | exact Or.inl ⟨rfl, fun g => (by first | exact ne_isN (by assumption) g | exact ne_isN (by assumption) g.1 | exact ne_isN (by assumption) g.2 | exact ne_isN (by assumption) g.2.1 | exact ne_isN (by assumption) g.2.2 | exact ne_isN (by assumption) g.2.2.1 | exact ne_isN (by assumption) g.2.2.2), rfl, rfl, rfl⟩ | exact Or.inr (Or.inl ⟨rfl, ⟨isN_of (by first | assumption | omega), isN_of (by first | assumption | omega), isN_of (by first | assumption | omega), isN_of (by first | assumption | omega)⟩, fun g => (by first | exact g.1 (congrArg nI (by omega)) | exact g.2.1 (congrArg nI (by omega)) | exact g.2.2 (congrArg nI (by omega))), rfl, rfl, rfl⟩) | exact Or.inr (Or.inr (⟨rfl, ⟨_, _, _, _, rfl, rfl, rfl, rfl, by omega, by omega, by omega, by omega, by omega, by omega, by omega, ACT_of hn2 hbe (fun p hp => sw3_is hst ((hy0 _ (by omega)).1 p hp)), hbv⟩, rfl, rfl⟩)))⟩)
    · refine J_iload_n (pc := 43) dX8_ring_43 rfl rfl ?_
      refine J_iload (pc := 44) dX8_ring_44 rfl ?_
      refine J_icmp_eq (pc := 46) (tgt := 55) dX8_ring_46 (by decide) (fun ht5 => ?_) (fun hf6 => ?_)
      · refine J_iconst (pc := 55) (v := nI 1) dX8_ring_55 (by decide) ?_
        refine J_goto (pc := 56) (tgt := 60) dX8_ring_56 (by decide) ?_
        refine J_callV0 (pc := 60) (M := mX8_ring) (as := [.int (nI 1), .int (nI 1)]) dX8_ring_60 fw_X8_isThrown fl_X8_35 fm_X8_isThrown fe_X8_isThrown h19 (by decide) rfl rfl rfl (c_X8_isThrown hs (d := d - 1) (Nat.le_trans (by decide) hdm) (w := w) (n := n) (mv := mv) (rw := rw) (nx := nx) (b := b) (bt := bt) (kn := kn) (en := en) (dn := dn) (rf := rf) (kk := kk) (th := th) ⟨h19, h20, h21, h22, hbb, hbl, hb3⟩ hn1 hn2 gm gr gx 1 1 (by first | assumption | omega) (by first | assumption | omega) (kc := 0) (ks := 0)) hdp (st := []) (Nat.le_of_ble_eq_true rfl) rfl (kr_I fun v7 w7 hv7 hw7 => ?_) kx_I
        obtain ⟨hR7, hFc7⟩ := hw7
        obtain ⟨h19_7, h20_7, h21_7, h22_7, hbb_7, hbl_7, hb3_7⟩ := hR7
        have hF7 := hF.tr hFc7
        subst hv7
        show J X mX8_ring d kc ks 63 [some (.ref 19), some (.int a), some (.int c), some (.int e), some (.int f)] [.int (nI 1)] w7 _
        refine J_if_eqN (pc := 63) (tgt := 68) dX8_ring_63 (by decide) (by decide) (fun h => absurd h (by decide)) (fun _ => ?_)
        refine J_iconst (pc := 66) (v := nI 0) dX8_ring_66 (by decide) ?_
        exact J_iret (pc := 67) dX8_ring_67 rfl (⟨mv, rw, nx, kn, dn, nI (tW 1 1), ⟨h19_7, h20_7, h21_7, h22_7, hbb_7, hbl_7, hb3_7⟩, hF7, gm, gr, gx, (by first | assumption | exact PM_st hn2 (by assumption) (by assumption) (by assumption)), (by first | assumption | exact Or.inl rfl), (by first | exact Or.inl ⟨rfl, fun g => (by first | exact ne_isN (by assumption) g | exact ne_isN (by assumption) g.1 | exact ne_isN (by assumption) g.2 | exact ne_isN (by assumption) g.2.1 | exact ne_isN (by assumption) g.2.2 | exact ne_isN (by assumption) g.2.2.1 | exact ne_isN (by assumption) g.2.2.2), rfl, rfl, rfl⟩ | exact Or.inr (Or.inl ⟨rfl, ⟨isN_of (by first | assumption | omega), isN_of (by first | assumption | omega), isN_of (by first | assumption | omega), isN_of (by first | assumption | omega)⟩, fun g => (by first | exact g.1 (congrArg nI (by omega)) | exact g.2.1 (congrArg nI (by omega)) | exact g.2.2 (congrArg nI (by omega))), rfl, rfl, rfl⟩) | exact Or.inr (Or.inr (⟨rfl, ⟨_, _, _, _, rfl, rfl, rfl, rfl, by omega, by omega, by omega, by omega, by omega, by omega, by omega, ACT_of hn2 hbe (fun p hp => sw3_is hst ((hy0 _ (by omega)).1 p hp)), hbv⟩, rfl, rfl⟩)))⟩)
      · refine J_iload_n (pc := 49) dX8_ring_49 rfl rfl ?_
        refine J_iload (pc := 50) dX8_ring_50 rfl ?_
        refine J_icmp_ne (pc := 52) (tgt := 59) dX8_ring_52 (by decide) (fun ht8 => ?_) (fun hf9 => ?_)
        · refine J_iconst (pc := 59) (v := nI 0) dX8_ring_59 (by decide) ?_
          refine J_callV0 (pc := 60) (M := mX8_ring) (as := [.int (nI 1), .int (nI 0)]) dX8_ring_60 fw_X8_isThrown fl_X8_35 fm_X8_isThrown fe_X8_isThrown h19 (by decide) rfl rfl rfl (c_X8_isThrown hs (d := d - 1) (Nat.le_trans (by decide) hdm) (w := w) (n := n) (mv := mv) (rw := rw) (nx := nx) (b := b) (bt := bt) (kn := kn) (en := en) (dn := dn) (rf := rf) (kk := kk) (th := th) ⟨h19, h20, h21, h22, hbb, hbl, hb3⟩ hn1 hn2 gm gr gx 1 0 (by first | assumption | omega) (by first | assumption | omega) (kc := 0) (ks := 0)) hdp (st := []) (Nat.le_of_ble_eq_true rfl) rfl (kr_I fun v10 w10 hv10 hw10 => ?_) kx_I
          obtain ⟨hR10, hFc10⟩ := hw10
          obtain ⟨h19_10, h20_10, h21_10, h22_10, hbb_10, hbl_10, hb3_10⟩ := hR10
          have hF10 := hF.tr hFc10
          subst hv10
          show J X mX8_ring d kc ks 63 [some (.ref 19), some (.int a), some (.int c), some (.int e), some (.int f)] [.int (nI 1)] w10 _
          refine J_if_eqN (pc := 63) (tgt := 68) dX8_ring_63 (by decide) (by decide) (fun h => absurd h (by decide)) (fun _ => ?_)
          refine J_iconst (pc := 66) (v := nI 0) dX8_ring_66 (by decide) ?_
          exact J_iret (pc := 67) dX8_ring_67 rfl (⟨mv, rw, nx, kn, dn, nI (tW 1 0), ⟨h19_10, h20_10, h21_10, h22_10, hbb_10, hbl_10, hb3_10⟩, hF10, gm, gr, gx, (by first | assumption | exact PM_st hn2 (by assumption) (by assumption) (by assumption)), (by first | assumption | exact Or.inl rfl), (by first | exact Or.inl ⟨rfl, fun g => (by first | exact ne_isN (by assumption) g | exact ne_isN (by assumption) g.1 | exact ne_isN (by assumption) g.2 | exact ne_isN (by assumption) g.2.1 | exact ne_isN (by assumption) g.2.2 | exact ne_isN (by assumption) g.2.2.1 | exact ne_isN (by assumption) g.2.2.2), rfl, rfl, rfl⟩ | exact Or.inr (Or.inl ⟨rfl, ⟨isN_of (by first | assumption | omega), isN_of (by first | assumption | omega), isN_of (by first | assumption | omega), isN_of (by first | assumption | omega)⟩, fun g => (by first | exact g.1 (congrArg nI (by omega)) | exact g.2.1 (congrArg nI (by omega)) | exact g.2.2 (congrArg nI (by omega))), rfl, rfl, rfl⟩) | exact Or.inr (Or.inr (⟨rfl, ⟨_, _, _, _, rfl, rfl, rfl, rfl, by omega, by omega, by omega, by omega, by omega, by omega, by omega, ACT_of hn2 hbe (fun p hp => sw3_is hst ((hy0 _ (by omega)).1 p hp)), hbv⟩, rfl, rfl⟩)))⟩)
        · refine J_iconst (pc := 55) (v := nI 1) dX8_ring_55 (by decide) ?_
          refine J_goto (pc := 56) (tgt := 60) dX8_ring_56 (by decide) ?_
          refine J_callV0 (pc := 60) (M := mX8_ring) (as := [.int (nI 1), .int (nI 1)]) dX8_ring_60 fw_X8_isThrown fl_X8_35 fm_X8_isThrown fe_X8_isThrown h19 (by decide) rfl rfl rfl (c_X8_isThrown hs (d := d - 1) (Nat.le_trans (by decide) hdm) (w := w) (n := n) (mv := mv) (rw := rw) (nx := nx) (b := b) (bt := bt) (kn := kn) (en := en) (dn := dn) (rf := rf) (kk := kk) (th := th) ⟨h19, h20, h21, h22, hbb, hbl, hb3⟩ hn1 hn2 gm gr gx 1 1 (by first | assumption | omega) (by first | assumption | omega) (kc := 0) (ks := 0)) hdp (st := []) (Nat.le_of_ble_eq_true rfl) rfl (kr_I fun v11 w11 hv11 hw11 => ?_) kx_I
          obtain ⟨hR11, hFc11⟩ := hw11
          obtain ⟨h19_11, h20_11, h21_11, h22_11, hbb_11, hbl_11, hb3_11⟩ := hR11
          have hF11 := hF.tr hFc11
          subst hv11
          show J X mX8_ring d kc ks 63 [some (.ref 19), some (.int a), some (.int c), some (.int e), some (.int f)] [.int (nI 1)] w11 _
          refine J_if_eqN (pc := 63) (tgt := 68) dX8_ring_63 (by decide) (by decide) (fun h => absurd h (by decide)) (fun _ => ?_)
          refine J_iconst (pc := 66) (v := nI 0) dX8_ring_66 (by decide) ?_
          exact J_iret (pc := 67) dX8_ring_67 rfl (⟨mv, rw, nx, kn, dn, nI (tW 1 1), ⟨h19_11, h20_11, h21_11, h22_11, hbb_11, hbl_11, hb3_11⟩, hF11, gm, gr, gx, (by first | assumption | exact PM_st hn2 (by assumption) (by assumption) (by assumption)), (by first | assumption | exact Or.inl rfl), (by first | exact Or.inl ⟨rfl, fun g => (by first | exact ne_isN (by assumption) g | exact ne_isN (by assumption) g.1 | exact ne_isN (by assumption) g.2 | exact ne_isN (by assumption) g.2.1 | exact ne_isN (by assumption) g.2.2 | exact ne_isN (by assumption) g.2.2.1 | exact ne_isN (by assumption) g.2.2.2), rfl, rfl, rfl⟩ | exact Or.inr (Or.inl ⟨rfl, ⟨isN_of (by first | assumption | omega), isN_of (by first | assumption | omega), isN_of (by first | assumption | omega), isN_of (by first | assumption | omega)⟩, fun g => (by first | exact g.1 (congrArg nI (by omega)) | exact g.2.1 (congrArg nI (by omega)) | exact g.2.2 (congrArg nI (by omega))), rfl, rfl, rfl⟩) | exact Or.inr (Or.inr (⟨rfl, ⟨_, _, _, _, rfl, rfl, rfl, rfl, by omega, by omega, by omega, by omega, by omega, by omega, by omega, ACT_of hn2 hbe (fun p hp => sw3_is hst ((hy0 _ (by omega)).1 p hp)), hbv⟩, rfl, rfl⟩)))⟩)
  · refine J_if_eqN (pc := 5) (tgt := 33) dX8_ring_5 (by decide) (by decide) (fun h => absurd h (by decide)) (fun _ => ?_)
    refine J_aload_n (pc := 8) dX8_ring_8 rfl rfl rfl ?_
    refine J_iload_n (pc := 9) dX8_ring_9 rfl rfl ?_
    refine J_callV0 (pc := 10) (M := mX8_ring) (as := [.int c]) dX8_ring_10 fw_X8_isPoint fl_X8_118 fm_X8_isPoint fe_X8_isPoint h19 (by decide) rfl rfl rfl (c_X8_isPoint hs (d := d - 1) (Nat.le_trans (by decide) hdm) (w := w) (n := n) (mv := mv) (rw := rw) (nx := nx) (b := b) (bt := bt) (kn := kn) (en := en) (dn := dn) (rf := rf) (kk := kk) (th := th) ⟨h19, h20, h21, h22, hbb, hbl, hb3⟩ hn1 hn2 gm gr gx c (kc := 0) (ks := 0)) hdp (st := [.ref 19]) (Nat.le_of_ble_eq_true rfl) rfl (kr_P fun v12 hv12 => ?_) kx_I
    rcases hv12 with ⟨rfl, hk12_0⟩ | ⟨q12, rfl, hk12_0, rfl⟩
    · refine J_if_eqN (pc := 13) (tgt := 33) dX8_ring_13 (by decide) (by decide) (fun _ => ?_) (fun h => absurd h (by decide))
      refine J_iconst (pc := 33) (v := nI 1) dX8_ring_33 (by decide) ?_
      refine J_goto (pc := 34) (tgt := 38) dX8_ring_34 (by decide) ?_
      refine J_iload_n (pc := 38) dX8_ring_38 rfl rfl ?_
      refine J_iload_n (pc := 39) dX8_ring_39 rfl rfl ?_
      refine J_icmp_eq (pc := 40) (tgt := 55) dX8_ring_40 (by decide) (fun ht13 => ?_) (fun hf14 => ?_)
      · refine J_iconst (pc := 55) (v := nI 1) dX8_ring_55 (by decide) ?_
        refine J_goto (pc := 56) (tgt := 60) dX8_ring_56 (by decide) ?_
        refine J_callV0 (pc := 60) (M := mX8_ring) (as := [.int (nI 1), .int (nI 1)]) dX8_ring_60 fw_X8_isThrown fl_X8_35 fm_X8_isThrown fe_X8_isThrown h19 (by decide) rfl rfl rfl (c_X8_isThrown hs (d := d - 1) (Nat.le_trans (by decide) hdm) (w := w) (n := n) (mv := mv) (rw := rw) (nx := nx) (b := b) (bt := bt) (kn := kn) (en := en) (dn := dn) (rf := rf) (kk := kk) (th := th) ⟨h19, h20, h21, h22, hbb, hbl, hb3⟩ hn1 hn2 gm gr gx 1 1 (by first | assumption | omega) (by first | assumption | omega) (kc := 0) (ks := 0)) hdp (st := []) (Nat.le_of_ble_eq_true rfl) rfl (kr_I fun v15 w15 hv15 hw15 => ?_) kx_I
        obtain ⟨hR15, hFc15⟩ := hw15
        obtain ⟨h19_15, h20_15, h21_15, h22_15, hbb_15, hbl_15, hb3_15⟩ := hR15
        have hF15 := hF.tr hFc15
        subst hv15
        show J X mX8_ring d kc ks 63 [some (.ref 19), some (.int (nI q1)), some (.int c), some (.int e), some (.int f)] [.int (nI 1)] w15 _
        refine J_if_eqN (pc := 63) (tgt := 68) dX8_ring_63 (by decide) (by decide) (fun h => absurd h (by decide)) (fun _ => ?_)
        refine J_iconst (pc := 66) (v := nI 0) dX8_ring_66 (by decide) ?_
        exact J_iret (pc := 67) dX8_ring_67 rfl (⟨mv, rw, nx, kn, dn, nI (tW 1 1), ⟨h19_15, h20_15, h21_15, h22_15, hbb_15, hbl_15, hb3_15⟩, hF15, gm, gr, gx, (by first | assumption | exact PM_st hn2 (by assumption) (by assumption) (by assumption)), (by first | assumption | exact Or.inl rfl), (by first | exact Or.inl ⟨rfl, fun g => (by first | exact ne_isN (by assumption) g | exact ne_isN (by assumption) g.1 | exact ne_isN (by assumption) g.2 | exact ne_isN (by assumption) g.2.1 | exact ne_isN (by assumption) g.2.2 | exact ne_isN (by assumption) g.2.2.1 | exact ne_isN (by assumption) g.2.2.2), rfl, rfl, rfl⟩ | exact Or.inr (Or.inl ⟨rfl, ⟨isN_of (by first | assumption | omega), isN_of (by first | assumption | omega), isN_of (by first | assumption | omega), isN_of (by first | assumption | omega)⟩, fun g => (by first | exact g.1 (congrArg nI (by omega)) | exact g.2.1 (congrArg nI (by omega)) | exact g.2.2 (congrArg nI (by omega))), rfl, rfl, rfl⟩) | exact Or.inr (Or.inr (⟨rfl, ⟨_, _, _, _, rfl, rfl, rfl, rfl, by omega, by omega, by omega, by omega, by omega, by omega, by omega, ACT_of hn2 hbe (fun p hp => sw3_is hst ((hy0 _ (by omega)).1 p hp)), hbv⟩, rfl, rfl⟩)))⟩)
      · refine J_iload_n (pc := 43) dX8_ring_43 rfl rfl ?_
        refine J_iload (pc := 44) dX8_ring_44 rfl ?_
        refine J_icmp_eq (pc := 46) (tgt := 55) dX8_ring_46 (by decide) (fun ht16 => ?_) (fun hf17 => ?_)
        · refine J_iconst (pc := 55) (v := nI 1) dX8_ring_55 (by decide) ?_
          refine J_goto (pc := 56) (tgt := 60) dX8_ring_56 (by decide) ?_
          refine J_callV0 (pc := 60) (M := mX8_ring) (as := [.int (nI 1), .int (nI 1)]) dX8_ring_60 fw_X8_isThrown fl_X8_35 fm_X8_isThrown fe_X8_isThrown h19 (by decide) rfl rfl rfl (c_X8_isThrown hs (d := d - 1) (Nat.le_trans (by decide) hdm) (w := w) (n := n) (mv := mv) (rw := rw) (nx := nx) (b := b) (bt := bt) (kn := kn) (en := en) (dn := dn) (rf := rf) (kk := kk) (th := th) ⟨h19, h20, h21, h22, hbb, hbl, hb3⟩ hn1 hn2 gm gr gx 1 1 (by first | assumption | omega) (by first | assumption | omega) (kc := 0) (ks := 0)) hdp (st := []) (Nat.le_of_ble_eq_true rfl) rfl (kr_I fun v18 w18 hv18 hw18 => ?_) kx_I
          obtain ⟨hR18, hFc18⟩ := hw18
          obtain ⟨h19_18, h20_18, h21_18, h22_18, hbb_18, hbl_18, hb3_18⟩ := hR18
          have hF18 := hF.tr hFc18
          subst hv18
          show J X mX8_ring d kc ks 63 [some (.ref 19), some (.int (nI q1)), some (.int c), some (.int e), some (.int f)] [.int (nI 1)] w18 _
          refine J_if_eqN (pc := 63) (tgt := 68) dX8_ring_63 (by decide) (by decide) (fun h => absurd h (by decide)) (fun _ => ?_)
          refine J_iconst (pc := 66) (v := nI 0) dX8_ring_66 (by decide) ?_
          exact J_iret (pc := 67) dX8_ring_67 rfl (⟨mv, rw, nx, kn, dn, nI (tW 1 1), ⟨h19_18, h20_18, h21_18, h22_18, hbb_18, hbl_18, hb3_18⟩, hF18, gm, gr, gx, (by first | assumption | exact PM_st hn2 (by assumption) (by assumption) (by assumption)), (by first | assumption | exact Or.inl rfl), (by first | exact Or.inl ⟨rfl, fun g => (by first | exact ne_isN (by assumption) g | exact ne_isN (by assumption) g.1 | exact ne_isN (by assumption) g.2 | exact ne_isN (by assumption) g.2.1 | exact ne_isN (by assumption) g.2.2 | exact ne_isN (by assumption) g.2.2.1 | exact ne_isN (by assumption) g.2.2.2), rfl, rfl, rfl⟩ | exact Or.inr (Or.inl ⟨rfl, ⟨isN_of (by first | assumption | omega), isN_of (by first | assumption | omega), isN_of (by first | assumption | omega), isN_of (by first | assumption | omega)⟩, fun g => (by first | exact g.1 (congrArg nI (by omega)) | exact g.2.1 (congrArg nI (by omega)) | exact g.2.2 (congrArg nI (by omega))), rfl, rfl, rfl⟩) | exact Or.inr (Or.inr (⟨rfl, ⟨_, _, _, _, rfl, rfl, rfl, rfl, by omega, by omega, by omega, by omega, by omega, by omega, by omega, ACT_of hn2 hbe (fun p hp => sw3_is hst ((hy0 _ (by omega)).1 p hp)), hbv⟩, rfl, rfl⟩)))⟩)
        · refine J_iload_n (pc := 49) dX8_ring_49 rfl rfl ?_
          refine J_iload (pc := 50) dX8_ring_50 rfl ?_
          refine J_icmp_ne (pc := 52) (tgt := 59) dX8_ring_52 (by decide) (fun ht19 => ?_) (fun hf20 => ?_)
          · refine J_iconst (pc := 59) (v := nI 0) dX8_ring_59 (by decide) ?_
            refine J_callV0 (pc := 60) (M := mX8_ring) (as := [.int (nI 1), .int (nI 0)]) dX8_ring_60 fw_X8_isThrown fl_X8_35 fm_X8_isThrown fe_X8_isThrown h19 (by decide) rfl rfl rfl (c_X8_isThrown hs (d := d - 1) (Nat.le_trans (by decide) hdm) (w := w) (n := n) (mv := mv) (rw := rw) (nx := nx) (b := b) (bt := bt) (kn := kn) (en := en) (dn := dn) (rf := rf) (kk := kk) (th := th) ⟨h19, h20, h21, h22, hbb, hbl, hb3⟩ hn1 hn2 gm gr gx 1 0 (by first | assumption | omega) (by first | assumption | omega) (kc := 0) (ks := 0)) hdp (st := []) (Nat.le_of_ble_eq_true rfl) rfl (kr_I fun v21 w21 hv21 hw21 => ?_) kx_I
            obtain ⟨hR21, hFc21⟩ := hw21
            obtain ⟨h19_21, h20_21, h21_21, h22_21, hbb_21, hbl_21, hb3_21⟩ := hR21
            have hF21 := hF.tr hFc21
            subst hv21
            show J X mX8_ring d kc ks 63 [some (.ref 19), some (.int (nI q1)), some (.int c), some (.int e), some (.int f)] [.int (nI 1)] w21 _
            refine J_if_eqN (pc := 63) (tgt := 68) dX8_ring_63 (by decide) (by decide) (fun h => absurd h (by decide)) (fun _ => ?_)
            refine J_iconst (pc := 66) (v := nI 0) dX8_ring_66 (by decide) ?_
            exact J_iret (pc := 67) dX8_ring_67 rfl (⟨mv, rw, nx, kn, dn, nI (tW 1 0), ⟨h19_21, h20_21, h21_21, h22_21, hbb_21, hbl_21, hb3_21⟩, hF21, gm, gr, gx, (by first | assumption | exact PM_st hn2 (by assumption) (by assumption) (by assumption)), (by first | assumption | exact Or.inl rfl), (by first | exact Or.inl ⟨rfl, fun g => (by first | exact ne_isN (by assumption) g | exact ne_isN (by assumption) g.1 | exact ne_isN (by assumption) g.2 | exact ne_isN (by assumption) g.2.1 | exact ne_isN (by assumption) g.2.2 | exact ne_isN (by assumption) g.2.2.1 | exact ne_isN (by assumption) g.2.2.2), rfl, rfl, rfl⟩ | exact Or.inr (Or.inl ⟨rfl, ⟨isN_of (by first | assumption | omega), isN_of (by first | assumption | omega), isN_of (by first | assumption | omega), isN_of (by first | assumption | omega)⟩, fun g => (by first | exact g.1 (congrArg nI (by omega)) | exact g.2.1 (congrArg nI (by omega)) | exact g.2.2 (congrArg nI (by omega))), rfl, rfl, rfl⟩) | exact Or.inr (Or.inr (⟨rfl, ⟨_, _, _, _, rfl, rfl, rfl, rfl, by omega, by omega, by omega, by omega, by omega, by omega, by omega, ACT_of hn2 hbe (fun p hp => sw3_is hst ((hy0 _ (by omega)).1 p hp)), hbv⟩, rfl, rfl⟩)))⟩)
          · refine J_iconst (pc := 55) (v := nI 1) dX8_ring_55 (by decide) ?_
            refine J_goto (pc := 56) (tgt := 60) dX8_ring_56 (by decide) ?_
            refine J_callV0 (pc := 60) (M := mX8_ring) (as := [.int (nI 1), .int (nI 1)]) dX8_ring_60 fw_X8_isThrown fl_X8_35 fm_X8_isThrown fe_X8_isThrown h19 (by decide) rfl rfl rfl (c_X8_isThrown hs (d := d - 1) (Nat.le_trans (by decide) hdm) (w := w) (n := n) (mv := mv) (rw := rw) (nx := nx) (b := b) (bt := bt) (kn := kn) (en := en) (dn := dn) (rf := rf) (kk := kk) (th := th) ⟨h19, h20, h21, h22, hbb, hbl, hb3⟩ hn1 hn2 gm gr gx 1 1 (by first | assumption | omega) (by first | assumption | omega) (kc := 0) (ks := 0)) hdp (st := []) (Nat.le_of_ble_eq_true rfl) rfl (kr_I fun v22 w22 hv22 hw22 => ?_) kx_I
            obtain ⟨hR22, hFc22⟩ := hw22
            obtain ⟨h19_22, h20_22, h21_22, h22_22, hbb_22, hbl_22, hb3_22⟩ := hR22
            have hF22 := hF.tr hFc22
            subst hv22
            show J X mX8_ring d kc ks 63 [some (.ref 19), some (.int (nI q1)), some (.int c), some (.int e), some (.int f)] [.int (nI 1)] w22 _
            refine J_if_eqN (pc := 63) (tgt := 68) dX8_ring_63 (by decide) (by decide) (fun h => absurd h (by decide)) (fun _ => ?_)
            refine J_iconst (pc := 66) (v := nI 0) dX8_ring_66 (by decide) ?_
            exact J_iret (pc := 67) dX8_ring_67 rfl (⟨mv, rw, nx, kn, dn, nI (tW 1 1), ⟨h19_22, h20_22, h21_22, h22_22, hbb_22, hbl_22, hb3_22⟩, hF22, gm, gr, gx, (by first | assumption | exact PM_st hn2 (by assumption) (by assumption) (by assumption)), (by first | assumption | exact Or.inl rfl), (by first | exact Or.inl ⟨rfl, fun g => (by first | exact ne_isN (by assumption) g | exact ne_isN (by assumption) g.1 | exact ne_isN (by assumption) g.2 | exact ne_isN (by assumption) g.2.1 | exact ne_isN (by assumption) g.2.2 | exact ne_isN (by assumption) g.2.2.1 | exact ne_isN (by assumption) g.2.2.2), rfl, rfl, rfl⟩ | exact Or.inr (Or.inl ⟨rfl, ⟨isN_of (by first | assumption | omega), isN_of (by first | assumption | omega), isN_of (by first | assumption | omega), isN_of (by first | assumption | omega)⟩, fun g => (by first | exact g.1 (congrArg nI (by omega)) | exact g.2.1 (congrArg nI (by omega)) | exact g.2.2 (congrArg nI (by omega))), rfl, rfl, rfl⟩) | exact Or.inr (Or.inr (⟨rfl, ⟨_, _, _, _, rfl, rfl, rfl, rfl, by omega, by omega, by omega, by omega, by omega, by omega, by omega, ACT_of hn2 hbe (fun p hp => sw3_is hst ((hy0 _ (by omega)).1 p hp)), hbv⟩, rfl, rfl⟩)))⟩)
    · refine J_if_eqN (pc := 13) (tgt := 33) dX8_ring_13 (by decide) (by decide) (fun h => absurd h (by decide)) (fun _ => ?_)
      refine J_aload_n (pc := 16) dX8_ring_16 rfl rfl rfl ?_
      refine J_iload_n (pc := 17) dX8_ring_17 rfl rfl ?_
      refine J_callV0 (pc := 18) (M := mX8_ring) (as := [.int e]) dX8_ring_18 fw_X8_isPoint fl_X8_118 fm_X8_isPoint fe_X8_isPoint h19 (by decide) rfl rfl rfl (c_X8_isPoint hs (d := d - 1) (Nat.le_trans (by decide) hdm) (w := w) (n := n) (mv := mv) (rw := rw) (nx := nx) (b := b) (bt := bt) (kn := kn) (en := en) (dn := dn) (rf := rf) (kk := kk) (th := th) ⟨h19, h20, h21, h22, hbb, hbl, hb3⟩ hn1 hn2 gm gr gx e (kc := 0) (ks := 0)) hdp (st := [.ref 19]) (Nat.le_of_ble_eq_true rfl) rfl (kr_P fun v23 hv23 => ?_) kx_I
      rcases hv23 with ⟨rfl, hk23_0⟩ | ⟨q23, rfl, hk23_0, rfl⟩
      · refine J_if_eqN (pc := 21) (tgt := 33) dX8_ring_21 (by decide) (by decide) (fun _ => ?_) (fun h => absurd h (by decide))
        refine J_iconst (pc := 33) (v := nI 1) dX8_ring_33 (by decide) ?_
        refine J_goto (pc := 34) (tgt := 38) dX8_ring_34 (by decide) ?_
        refine J_iload_n (pc := 38) dX8_ring_38 rfl rfl ?_
        refine J_iload_n (pc := 39) dX8_ring_39 rfl rfl ?_
        refine J_icmp_eq (pc := 40) (tgt := 55) dX8_ring_40 (by decide) (fun ht24 => ?_) (fun hf25 => ?_)
        · refine J_iconst (pc := 55) (v := nI 1) dX8_ring_55 (by decide) ?_
          refine J_goto (pc := 56) (tgt := 60) dX8_ring_56 (by decide) ?_
          refine J_callV0 (pc := 60) (M := mX8_ring) (as := [.int (nI 1), .int (nI 1)]) dX8_ring_60 fw_X8_isThrown fl_X8_35 fm_X8_isThrown fe_X8_isThrown h19 (by decide) rfl rfl rfl (c_X8_isThrown hs (d := d - 1) (Nat.le_trans (by decide) hdm) (w := w) (n := n) (mv := mv) (rw := rw) (nx := nx) (b := b) (bt := bt) (kn := kn) (en := en) (dn := dn) (rf := rf) (kk := kk) (th := th) ⟨h19, h20, h21, h22, hbb, hbl, hb3⟩ hn1 hn2 gm gr gx 1 1 (by first | assumption | omega) (by first | assumption | omega) (kc := 0) (ks := 0)) hdp (st := []) (Nat.le_of_ble_eq_true rfl) rfl (kr_I fun v26 w26 hv26 hw26 => ?_) kx_I
          obtain ⟨hR26, hFc26⟩ := hw26
          obtain ⟨h19_26, h20_26, h21_26, h22_26, hbb_26, hbl_26, hb3_26⟩ := hR26
          have hF26 := hF.tr hFc26
          subst hv26
          show J X mX8_ring d kc ks 63 [some (.ref 19), some (.int (nI q1)), some (.int (nI q12)), some (.int e), some (.int f)] [.int (nI 1)] w26 _
          refine J_if_eqN (pc := 63) (tgt := 68) dX8_ring_63 (by decide) (by decide) (fun h => absurd h (by decide)) (fun _ => ?_)
          refine J_iconst (pc := 66) (v := nI 0) dX8_ring_66 (by decide) ?_
          exact J_iret (pc := 67) dX8_ring_67 rfl (⟨mv, rw, nx, kn, dn, nI (tW 1 1), ⟨h19_26, h20_26, h21_26, h22_26, hbb_26, hbl_26, hb3_26⟩, hF26, gm, gr, gx, (by first | assumption | exact PM_st hn2 (by assumption) (by assumption) (by assumption)), (by first | assumption | exact Or.inl rfl), (by first | exact Or.inl ⟨rfl, fun g => (by first | exact ne_isN (by assumption) g | exact ne_isN (by assumption) g.1 | exact ne_isN (by assumption) g.2 | exact ne_isN (by assumption) g.2.1 | exact ne_isN (by assumption) g.2.2 | exact ne_isN (by assumption) g.2.2.1 | exact ne_isN (by assumption) g.2.2.2), rfl, rfl, rfl⟩ | exact Or.inr (Or.inl ⟨rfl, ⟨isN_of (by first | assumption | omega), isN_of (by first | assumption | omega), isN_of (by first | assumption | omega), isN_of (by first | assumption | omega)⟩, fun g => (by first | exact g.1 (congrArg nI (by omega)) | exact g.2.1 (congrArg nI (by omega)) | exact g.2.2 (congrArg nI (by omega))), rfl, rfl, rfl⟩) | exact Or.inr (Or.inr (⟨rfl, ⟨_, _, _, _, rfl, rfl, rfl, rfl, by omega, by omega, by omega, by omega, by omega, by omega, by omega, ACT_of hn2 hbe (fun p hp => sw3_is hst ((hy0 _ (by omega)).1 p hp)), hbv⟩, rfl, rfl⟩)))⟩)
        · refine J_iload_n (pc := 43) dX8_ring_43 rfl rfl ?_
          refine J_iload (pc := 44) dX8_ring_44 rfl ?_
          refine J_icmp_eq (pc := 46) (tgt := 55) dX8_ring_46 (by decide) (fun ht27 => ?_) (fun hf28 => ?_)
          · refine J_iconst (pc := 55) (v := nI 1) dX8_ring_55 (by decide) ?_
            refine J_goto (pc := 56) (tgt := 60) dX8_ring_56 (by decide) ?_
            refine J_callV0 (pc := 60) (M := mX8_ring) (as := [.int (nI 1), .int (nI 1)]) dX8_ring_60 fw_X8_isThrown fl_X8_35 fm_X8_isThrown fe_X8_isThrown h19 (by decide) rfl rfl rfl (c_X8_isThrown hs (d := d - 1) (Nat.le_trans (by decide) hdm) (w := w) (n := n) (mv := mv) (rw := rw) (nx := nx) (b := b) (bt := bt) (kn := kn) (en := en) (dn := dn) (rf := rf) (kk := kk) (th := th) ⟨h19, h20, h21, h22, hbb, hbl, hb3⟩ hn1 hn2 gm gr gx 1 1 (by first | assumption | omega) (by first | assumption | omega) (kc := 0) (ks := 0)) hdp (st := []) (Nat.le_of_ble_eq_true rfl) rfl (kr_I fun v29 w29 hv29 hw29 => ?_) kx_I
            obtain ⟨hR29, hFc29⟩ := hw29
            obtain ⟨h19_29, h20_29, h21_29, h22_29, hbb_29, hbl_29, hb3_29⟩ := hR29
            have hF29 := hF.tr hFc29
            subst hv29
            show J X mX8_ring d kc ks 63 [some (.ref 19), some (.int (nI q1)), some (.int (nI q12)), some (.int e), some (.int f)] [.int (nI 1)] w29 _
            refine J_if_eqN (pc := 63) (tgt := 68) dX8_ring_63 (by decide) (by decide) (fun h => absurd h (by decide)) (fun _ => ?_)
            refine J_iconst (pc := 66) (v := nI 0) dX8_ring_66 (by decide) ?_
            exact J_iret (pc := 67) dX8_ring_67 rfl (⟨mv, rw, nx, kn, dn, nI (tW 1 1), ⟨h19_29, h20_29, h21_29, h22_29, hbb_29, hbl_29, hb3_29⟩, hF29, gm, gr, gx, (by first | assumption | exact PM_st hn2 (by assumption) (by assumption) (by assumption)), (by first | assumption | exact Or.inl rfl), (by first | exact Or.inl ⟨rfl, fun g => (by first | exact ne_isN (by assumption) g | exact ne_isN (by assumption) g.1 | exact ne_isN (by assumption) g.2 | exact ne_isN (by assumption) g.2.1 | exact ne_isN (by assumption) g.2.2 | exact ne_isN (by assumption) g.2.2.1 | exact ne_isN (by assumption) g.2.2.2), rfl, rfl, rfl⟩ | exact Or.inr (Or.inl ⟨rfl, ⟨isN_of (by first | assumption | omega), isN_of (by first | assumption | omega), isN_of (by first | assumption | omega), isN_of (by first | assumption | omega)⟩, fun g => (by first | exact g.1 (congrArg nI (by omega)) | exact g.2.1 (congrArg nI (by omega)) | exact g.2.2 (congrArg nI (by omega))), rfl, rfl, rfl⟩) | exact Or.inr (Or.inr (⟨rfl, ⟨_, _, _, _, rfl, rfl, rfl, rfl, by omega, by omega, by omega, by omega, by omega, by omega, by omega, ACT_of hn2 hbe (fun p hp => sw3_is hst ((hy0 _ (by omega)).1 p hp)), hbv⟩, rfl, rfl⟩)))⟩)
          · refine J_iload_n (pc := 49) dX8_ring_49 rfl rfl ?_
            refine J_iload (pc := 50) dX8_ring_50 rfl ?_
            refine J_icmp_ne (pc := 52) (tgt := 59) dX8_ring_52 (by decide) (fun ht30 => ?_) (fun hf31 => ?_)
            · refine J_iconst (pc := 59) (v := nI 0) dX8_ring_59 (by decide) ?_
              refine J_callV0 (pc := 60) (M := mX8_ring) (as := [.int (nI 1), .int (nI 0)]) dX8_ring_60 fw_X8_isThrown fl_X8_35 fm_X8_isThrown fe_X8_isThrown h19 (by decide) rfl rfl rfl (c_X8_isThrown hs (d := d - 1) (Nat.le_trans (by decide) hdm) (w := w) (n := n) (mv := mv) (rw := rw) (nx := nx) (b := b) (bt := bt) (kn := kn) (en := en) (dn := dn) (rf := rf) (kk := kk) (th := th) ⟨h19, h20, h21, h22, hbb, hbl, hb3⟩ hn1 hn2 gm gr gx 1 0 (by first | assumption | omega) (by first | assumption | omega) (kc := 0) (ks := 0)) hdp (st := []) (Nat.le_of_ble_eq_true rfl) rfl (kr_I fun v32 w32 hv32 hw32 => ?_) kx_I
              obtain ⟨hR32, hFc32⟩ := hw32
              obtain ⟨h19_32, h20_32, h21_32, h22_32, hbb_32, hbl_32, hb3_32⟩ := hR32
              have hF32 := hF.tr hFc32
              subst hv32
              show J X mX8_ring d kc ks 63 [some (.ref 19), some (.int (nI q1)), some (.int (nI q12)), some (.int e), some (.int f)] [.int (nI 1)] w32 _
              refine J_if_eqN (pc := 63) (tgt := 68) dX8_ring_63 (by decide) (by decide) (fun h => absurd h (by decide)) (fun _ => ?_)
              refine J_iconst (pc := 66) (v := nI 0) dX8_ring_66 (by decide) ?_
              exact J_iret (pc := 67) dX8_ring_67 rfl (⟨mv, rw, nx, kn, dn, nI (tW 1 0), ⟨h19_32, h20_32, h21_32, h22_32, hbb_32, hbl_32, hb3_32⟩, hF32, gm, gr, gx, (by first | assumption | exact PM_st hn2 (by assumption) (by assumption) (by assumption)), (by first | assumption | exact Or.inl rfl), (by first | exact Or.inl ⟨rfl, fun g => (by first | exact ne_isN (by assumption) g | exact ne_isN (by assumption) g.1 | exact ne_isN (by assumption) g.2 | exact ne_isN (by assumption) g.2.1 | exact ne_isN (by assumption) g.2.2 | exact ne_isN (by assumption) g.2.2.1 | exact ne_isN (by assumption) g.2.2.2), rfl, rfl, rfl⟩ | exact Or.inr (Or.inl ⟨rfl, ⟨isN_of (by first | assumption | omega), isN_of (by first | assumption | omega), isN_of (by first | assumption | omega), isN_of (by first | assumption | omega)⟩, fun g => (by first | exact g.1 (congrArg nI (by omega)) | exact g.2.1 (congrArg nI (by omega)) | exact g.2.2 (congrArg nI (by omega))), rfl, rfl, rfl⟩) | exact Or.inr (Or.inr (⟨rfl, ⟨_, _, _, _, rfl, rfl, rfl, rfl, by omega, by omega, by omega, by omega, by omega, by omega, by omega, ACT_of hn2 hbe (fun p hp => sw3_is hst ((hy0 _ (by omega)).1 p hp)), hbv⟩, rfl, rfl⟩)))⟩)
            · refine J_iconst (pc := 55) (v := nI 1) dX8_ring_55 (by decide) ?_
              refine J_goto (pc := 56) (tgt := 60) dX8_ring_56 (by decide) ?_
              refine J_callV0 (pc := 60) (M := mX8_ring) (as := [.int (nI 1), .int (nI 1)]) dX8_ring_60 fw_X8_isThrown fl_X8_35 fm_X8_isThrown fe_X8_isThrown h19 (by decide) rfl rfl rfl (c_X8_isThrown hs (d := d - 1) (Nat.le_trans (by decide) hdm) (w := w) (n := n) (mv := mv) (rw := rw) (nx := nx) (b := b) (bt := bt) (kn := kn) (en := en) (dn := dn) (rf := rf) (kk := kk) (th := th) ⟨h19, h20, h21, h22, hbb, hbl, hb3⟩ hn1 hn2 gm gr gx 1 1 (by first | assumption | omega) (by first | assumption | omega) (kc := 0) (ks := 0)) hdp (st := []) (Nat.le_of_ble_eq_true rfl) rfl (kr_I fun v33 w33 hv33 hw33 => ?_) kx_I
              obtain ⟨hR33, hFc33⟩ := hw33
              obtain ⟨h19_33, h20_33, h21_33, h22_33, hbb_33, hbl_33, hb3_33⟩ := hR33
              have hF33 := hF.tr hFc33
              subst hv33
              show J X mX8_ring d kc ks 63 [some (.ref 19), some (.int (nI q1)), some (.int (nI q12)), some (.int e), some (.int f)] [.int (nI 1)] w33 _
              refine J_if_eqN (pc := 63) (tgt := 68) dX8_ring_63 (by decide) (by decide) (fun h => absurd h (by decide)) (fun _ => ?_)
              refine J_iconst (pc := 66) (v := nI 0) dX8_ring_66 (by decide) ?_
              exact J_iret (pc := 67) dX8_ring_67 rfl (⟨mv, rw, nx, kn, dn, nI (tW 1 1), ⟨h19_33, h20_33, h21_33, h22_33, hbb_33, hbl_33, hb3_33⟩, hF33, gm, gr, gx, (by first | assumption | exact PM_st hn2 (by assumption) (by assumption) (by assumption)), (by first | assumption | exact Or.inl rfl), (by first | exact Or.inl ⟨rfl, fun g => (by first | exact ne_isN (by assumption) g | exact ne_isN (by assumption) g.1 | exact ne_isN (by assumption) g.2 | exact ne_isN (by assumption) g.2.1 | exact ne_isN (by assumption) g.2.2 | exact ne_isN (by assumption) g.2.2.1 | exact ne_isN (by assumption) g.2.2.2), rfl, rfl, rfl⟩ | exact Or.inr (Or.inl ⟨rfl, ⟨isN_of (by first | assumption | omega), isN_of (by first | assumption | omega), isN_of (by first | assumption | omega), isN_of (by first | assumption | omega)⟩, fun g => (by first | exact g.1 (congrArg nI (by omega)) | exact g.2.1 (congrArg nI (by omega)) | exact g.2.2 (congrArg nI (by omega))), rfl, rfl, rfl⟩) | exact Or.inr (Or.inr (⟨rfl, ⟨_, _, _, _, rfl, rfl, rfl, rfl, by omega, by omega, by omega, by omega, by omega, by omega, by omega, ACT_of hn2 hbe (fun p hp => sw3_is hst ((hy0 _ (by omega)).1 p hp)), hbv⟩, rfl, rfl⟩)))⟩)
      · refine J_if_eqN (pc := 21) (tgt := 33) dX8_ring_21 (by decide) (by decide) (fun h => absurd h (by decide)) (fun _ => ?_)
        refine J_aload_n (pc := 24) dX8_ring_24 rfl rfl rfl ?_
        refine J_iload (pc := 25) dX8_ring_25 rfl ?_
        refine J_callV0 (pc := 27) (M := mX8_ring) (as := [.int f]) dX8_ring_27 fw_X8_isPoint fl_X8_118 fm_X8_isPoint fe_X8_isPoint h19 (by decide) rfl rfl rfl (c_X8_isPoint hs (d := d - 1) (Nat.le_trans (by decide) hdm) (w := w) (n := n) (mv := mv) (rw := rw) (nx := nx) (b := b) (bt := bt) (kn := kn) (en := en) (dn := dn) (rf := rf) (kk := kk) (th := th) ⟨h19, h20, h21, h22, hbb, hbl, hb3⟩ hn1 hn2 gm gr gx f (kc := 0) (ks := 0)) hdp (st := [.ref 19]) (Nat.le_of_ble_eq_true rfl) rfl (kr_P fun v34 hv34 => ?_) kx_I
        rcases hv34 with ⟨rfl, hk34_0⟩ | ⟨q34, rfl, hk34_0, rfl⟩
        · refine J_if_neN (pc := 30) (tgt := 37) dX8_ring_30 (by decide) (by decide) (fun h => absurd h (by decide)) (fun _ => ?_)
          refine J_iconst (pc := 33) (v := nI 1) dX8_ring_33 (by decide) ?_
          refine J_goto (pc := 34) (tgt := 38) dX8_ring_34 (by decide) ?_
          refine J_iload_n (pc := 38) dX8_ring_38 rfl rfl ?_
          refine J_iload_n (pc := 39) dX8_ring_39 rfl rfl ?_
          refine J_icmp_eqN (pc := 40) (tgt := 55) dX8_ring_40 (by decide) (by omega) (by omega) (fun ht35 => ?_) (fun hf36 => ?_)
          · refine J_iconst (pc := 55) (v := nI 1) dX8_ring_55 (by decide) ?_
            refine J_goto (pc := 56) (tgt := 60) dX8_ring_56 (by decide) ?_
            refine J_callV0 (pc := 60) (M := mX8_ring) (as := [.int (nI 1), .int (nI 1)]) dX8_ring_60 fw_X8_isThrown fl_X8_35 fm_X8_isThrown fe_X8_isThrown h19 (by decide) rfl rfl rfl (c_X8_isThrown hs (d := d - 1) (Nat.le_trans (by decide) hdm) (w := w) (n := n) (mv := mv) (rw := rw) (nx := nx) (b := b) (bt := bt) (kn := kn) (en := en) (dn := dn) (rf := rf) (kk := kk) (th := th) ⟨h19, h20, h21, h22, hbb, hbl, hb3⟩ hn1 hn2 gm gr gx 1 1 (by first | assumption | omega) (by first | assumption | omega) (kc := 0) (ks := 0)) hdp (st := []) (Nat.le_of_ble_eq_true rfl) rfl (kr_I fun v37 w37 hv37 hw37 => ?_) kx_I
            obtain ⟨hR37, hFc37⟩ := hw37
            obtain ⟨h19_37, h20_37, h21_37, h22_37, hbb_37, hbl_37, hb3_37⟩ := hR37
            have hF37 := hF.tr hFc37
            subst hv37
            show J X mX8_ring d kc ks 63 [some (.ref 19), some (.int (nI q1)), some (.int (nI q12)), some (.int (nI q23)), some (.int f)] [.int (nI 1)] w37 _
            refine J_if_eqN (pc := 63) (tgt := 68) dX8_ring_63 (by decide) (by decide) (fun h => absurd h (by decide)) (fun _ => ?_)
            refine J_iconst (pc := 66) (v := nI 0) dX8_ring_66 (by decide) ?_
            exact J_iret (pc := 67) dX8_ring_67 rfl (⟨mv, rw, nx, kn, dn, nI (tW 1 1), ⟨h19_37, h20_37, h21_37, h22_37, hbb_37, hbl_37, hb3_37⟩, hF37, gm, gr, gx, (by first | assumption | exact PM_st hn2 (by assumption) (by assumption) (by assumption)), (by first | assumption | exact Or.inl rfl), (by first | exact Or.inl ⟨rfl, fun g => (by first | exact ne_isN (by assumption) g | exact ne_isN (by assumption) g.1 | exact ne_isN (by assumption) g.2 | exact ne_isN (by assumption) g.2.1 | exact ne_isN (by assumption) g.2.2 | exact ne_isN (by assumption) g.2.2.1 | exact ne_isN (by assumption) g.2.2.2), rfl, rfl, rfl⟩ | exact Or.inr (Or.inl ⟨rfl, ⟨isN_of (by first | assumption | omega), isN_of (by first | assumption | omega), isN_of (by first | assumption | omega), isN_of (by first | assumption | omega)⟩, fun g => (by first | exact g.1 (congrArg nI (by omega)) | exact g.2.1 (congrArg nI (by omega)) | exact g.2.2 (congrArg nI (by omega))), rfl, rfl, rfl⟩) | exact Or.inr (Or.inr (⟨rfl, ⟨_, _, _, _, rfl, rfl, rfl, rfl, by omega, by omega, by omega, by omega, by omega, by omega, by omega, ACT_of hn2 hbe (fun p hp => sw3_is hst ((hy0 _ (by omega)).1 p hp)), hbv⟩, rfl, rfl⟩)))⟩)
          · refine J_iload_n (pc := 43) dX8_ring_43 rfl rfl ?_
            refine J_iload (pc := 44) dX8_ring_44 rfl ?_
            refine J_icmp_eq (pc := 46) (tgt := 55) dX8_ring_46 (by decide) (fun ht38 => ?_) (fun hf39 => ?_)
            · refine J_iconst (pc := 55) (v := nI 1) dX8_ring_55 (by decide) ?_
              refine J_goto (pc := 56) (tgt := 60) dX8_ring_56 (by decide) ?_
              refine J_callV0 (pc := 60) (M := mX8_ring) (as := [.int (nI 1), .int (nI 1)]) dX8_ring_60 fw_X8_isThrown fl_X8_35 fm_X8_isThrown fe_X8_isThrown h19 (by decide) rfl rfl rfl (c_X8_isThrown hs (d := d - 1) (Nat.le_trans (by decide) hdm) (w := w) (n := n) (mv := mv) (rw := rw) (nx := nx) (b := b) (bt := bt) (kn := kn) (en := en) (dn := dn) (rf := rf) (kk := kk) (th := th) ⟨h19, h20, h21, h22, hbb, hbl, hb3⟩ hn1 hn2 gm gr gx 1 1 (by first | assumption | omega) (by first | assumption | omega) (kc := 0) (ks := 0)) hdp (st := []) (Nat.le_of_ble_eq_true rfl) rfl (kr_I fun v40 w40 hv40 hw40 => ?_) kx_I
              obtain ⟨hR40, hFc40⟩ := hw40
              obtain ⟨h19_40, h20_40, h21_40, h22_40, hbb_40, hbl_40, hb3_40⟩ := hR40
              have hF40 := hF.tr hFc40
              subst hv40
              show J X mX8_ring d kc ks 63 [some (.ref 19), some (.int (nI q1)), some (.int (nI q12)), some (.int (nI q23)), some (.int f)] [.int (nI 1)] w40 _
              refine J_if_eqN (pc := 63) (tgt := 68) dX8_ring_63 (by decide) (by decide) (fun h => absurd h (by decide)) (fun _ => ?_)
              refine J_iconst (pc := 66) (v := nI 0) dX8_ring_66 (by decide) ?_
              exact J_iret (pc := 67) dX8_ring_67 rfl (⟨mv, rw, nx, kn, dn, nI (tW 1 1), ⟨h19_40, h20_40, h21_40, h22_40, hbb_40, hbl_40, hb3_40⟩, hF40, gm, gr, gx, (by first | assumption | exact PM_st hn2 (by assumption) (by assumption) (by assumption)), (by first | assumption | exact Or.inl rfl), (by first | exact Or.inl ⟨rfl, fun g => (by first | exact ne_isN (by assumption) g | exact ne_isN (by assumption) g.1 | exact ne_isN (by assumption) g.2 | exact ne_isN (by assumption) g.2.1 | exact ne_isN (by assumption) g.2.2 | exact ne_isN (by assumption) g.2.2.1 | exact ne_isN (by assumption) g.2.2.2), rfl, rfl, rfl⟩ | exact Or.inr (Or.inl ⟨rfl, ⟨isN_of (by first | assumption | omega), isN_of (by first | assumption | omega), isN_of (by first | assumption | omega), isN_of (by first | assumption | omega)⟩, fun g => (by first | exact g.1 (congrArg nI (by omega)) | exact g.2.1 (congrArg nI (by omega)) | exact g.2.2 (congrArg nI (by omega))), rfl, rfl, rfl⟩) | exact Or.inr (Or.inr (⟨rfl, ⟨_, _, _, _, rfl, rfl, rfl, rfl, by omega, by omega, by omega, by omega, by omega, by omega, by omega, ACT_of hn2 hbe (fun p hp => sw3_is hst ((hy0 _ (by omega)).1 p hp)), hbv⟩, rfl, rfl⟩)))⟩)
            · refine J_iload_n (pc := 49) dX8_ring_49 rfl rfl ?_
              refine J_iload (pc := 50) dX8_ring_50 rfl ?_
              refine J_icmp_ne (pc := 52) (tgt := 59) dX8_ring_52 (by decide) (fun ht41 => ?_) (fun hf42 => ?_)
              · refine J_iconst (pc := 59) (v := nI 0) dX8_ring_59 (by decide) ?_
                refine J_callV0 (pc := 60) (M := mX8_ring) (as := [.int (nI 1), .int (nI 0)]) dX8_ring_60 fw_X8_isThrown fl_X8_35 fm_X8_isThrown fe_X8_isThrown h19 (by decide) rfl rfl rfl (c_X8_isThrown hs (d := d - 1) (Nat.le_trans (by decide) hdm) (w := w) (n := n) (mv := mv) (rw := rw) (nx := nx) (b := b) (bt := bt) (kn := kn) (en := en) (dn := dn) (rf := rf) (kk := kk) (th := th) ⟨h19, h20, h21, h22, hbb, hbl, hb3⟩ hn1 hn2 gm gr gx 1 0 (by first | assumption | omega) (by first | assumption | omega) (kc := 0) (ks := 0)) hdp (st := []) (Nat.le_of_ble_eq_true rfl) rfl (kr_I fun v43 w43 hv43 hw43 => ?_) kx_I
                obtain ⟨hR43, hFc43⟩ := hw43
                obtain ⟨h19_43, h20_43, h21_43, h22_43, hbb_43, hbl_43, hb3_43⟩ := hR43
                have hF43 := hF.tr hFc43
                subst hv43
                show J X mX8_ring d kc ks 63 [some (.ref 19), some (.int (nI q1)), some (.int (nI q12)), some (.int (nI q23)), some (.int f)] [.int (nI 1)] w43 _
                refine J_if_eqN (pc := 63) (tgt := 68) dX8_ring_63 (by decide) (by decide) (fun h => absurd h (by decide)) (fun _ => ?_)
                refine J_iconst (pc := 66) (v := nI 0) dX8_ring_66 (by decide) ?_
                exact J_iret (pc := 67) dX8_ring_67 rfl (⟨mv, rw, nx, kn, dn, nI (tW 1 0), ⟨h19_43, h20_43, h21_43, h22_43, hbb_43, hbl_43, hb3_43⟩, hF43, gm, gr, gx, (by first | assumption | exact PM_st hn2 (by assumption) (by assumption) (by assumption)), (by first | assumption | exact Or.inl rfl), (by first | exact Or.inl ⟨rfl, fun g => (by first | exact ne_isN (by assumption) g | exact ne_isN (by assumption) g.1 | exact ne_isN (by assumption) g.2 | exact ne_isN (by assumption) g.2.1 | exact ne_isN (by assumption) g.2.2 | exact ne_isN (by assumption) g.2.2.1 | exact ne_isN (by assumption) g.2.2.2), rfl, rfl, rfl⟩ | exact Or.inr (Or.inl ⟨rfl, ⟨isN_of (by first | assumption | omega), isN_of (by first | assumption | omega), isN_of (by first | assumption | omega), isN_of (by first | assumption | omega)⟩, fun g => (by first | exact g.1 (congrArg nI (by omega)) | exact g.2.1 (congrArg nI (by omega)) | exact g.2.2 (congrArg nI (by omega))), rfl, rfl, rfl⟩) | exact Or.inr (Or.inr (⟨rfl, ⟨_, _, _, _, rfl, rfl, rfl, rfl, by omega, by omega, by omega, by omega, by omega, by omega, by omega, ACT_of hn2 hbe (fun p hp => sw3_is hst ((hy0 _ (by omega)).1 p hp)), hbv⟩, rfl, rfl⟩)))⟩)
              · refine J_iconst (pc := 55) (v := nI 1) dX8_ring_55 (by decide) ?_
                refine J_goto (pc := 56) (tgt := 60) dX8_ring_56 (by decide) ?_
                refine J_callV0 (pc := 60) (M := mX8_ring) (as := [.int (nI 1), .int (nI 1)]) dX8_ring_60 fw_X8_isThrown fl_X8_35 fm_X8_isThrown fe_X8_isThrown h19 (by decide) rfl rfl rfl (c_X8_isThrown hs (d := d - 1) (Nat.le_trans (by decide) hdm) (w := w) (n := n) (mv := mv) (rw := rw) (nx := nx) (b := b) (bt := bt) (kn := kn) (en := en) (dn := dn) (rf := rf) (kk := kk) (th := th) ⟨h19, h20, h21, h22, hbb, hbl, hb3⟩ hn1 hn2 gm gr gx 1 1 (by first | assumption | omega) (by first | assumption | omega) (kc := 0) (ks := 0)) hdp (st := []) (Nat.le_of_ble_eq_true rfl) rfl (kr_I fun v44 w44 hv44 hw44 => ?_) kx_I
                obtain ⟨hR44, hFc44⟩ := hw44
                obtain ⟨h19_44, h20_44, h21_44, h22_44, hbb_44, hbl_44, hb3_44⟩ := hR44
                have hF44 := hF.tr hFc44
                subst hv44
                show J X mX8_ring d kc ks 63 [some (.ref 19), some (.int (nI q1)), some (.int (nI q12)), some (.int (nI q23)), some (.int f)] [.int (nI 1)] w44 _
                refine J_if_eqN (pc := 63) (tgt := 68) dX8_ring_63 (by decide) (by decide) (fun h => absurd h (by decide)) (fun _ => ?_)
                refine J_iconst (pc := 66) (v := nI 0) dX8_ring_66 (by decide) ?_
                exact J_iret (pc := 67) dX8_ring_67 rfl (⟨mv, rw, nx, kn, dn, nI (tW 1 1), ⟨h19_44, h20_44, h21_44, h22_44, hbb_44, hbl_44, hb3_44⟩, hF44, gm, gr, gx, (by first | assumption | exact PM_st hn2 (by assumption) (by assumption) (by assumption)), (by first | assumption | exact Or.inl rfl), (by first | exact Or.inl ⟨rfl, fun g => (by first | exact ne_isN (by assumption) g | exact ne_isN (by assumption) g.1 | exact ne_isN (by assumption) g.2 | exact ne_isN (by assumption) g.2.1 | exact ne_isN (by assumption) g.2.2 | exact ne_isN (by assumption) g.2.2.1 | exact ne_isN (by assumption) g.2.2.2), rfl, rfl, rfl⟩ | exact Or.inr (Or.inl ⟨rfl, ⟨isN_of (by first | assumption | omega), isN_of (by first | assumption | omega), isN_of (by first | assumption | omega), isN_of (by first | assumption | omega)⟩, fun g => (by first | exact g.1 (congrArg nI (by omega)) | exact g.2.1 (congrArg nI (by omega)) | exact g.2.2 (congrArg nI (by omega))), rfl, rfl, rfl⟩) | exact Or.inr (Or.inr (⟨rfl, ⟨_, _, _, _, rfl, rfl, rfl, rfl, by omega, by omega, by omega, by omega, by omega, by omega, by omega, ACT_of hn2 hbe (fun p hp => sw3_is hst ((hy0 _ (by omega)).1 p hp)), hbv⟩, rfl, rfl⟩)))⟩)
        · refine J_if_neN (pc := 30) (tgt := 37) dX8_ring_30 (by decide) (by decide) (fun _ => ?_) (fun h => absurd h (by decide))
          refine J_iconst (pc := 37) (v := nI 0) dX8_ring_37 (by decide) ?_
          refine J_iload_n (pc := 38) dX8_ring_38 rfl rfl ?_
          refine J_iload_n (pc := 39) dX8_ring_39 rfl rfl ?_
          refine J_icmp_eqN (pc := 40) (tgt := 55) dX8_ring_40 (by decide) (by omega) (by omega) (fun ht45 => ?_) (fun hf46 => ?_)
          · refine J_iconst (pc := 55) (v := nI 1) dX8_ring_55 (by decide) ?_
            refine J_goto (pc := 56) (tgt := 60) dX8_ring_56 (by decide) ?_
            refine J_callV0 (pc := 60) (M := mX8_ring) (as := [.int (nI 0), .int (nI 1)]) dX8_ring_60 fw_X8_isThrown fl_X8_35 fm_X8_isThrown fe_X8_isThrown h19 (by decide) rfl rfl rfl (c_X8_isThrown hs (d := d - 1) (Nat.le_trans (by decide) hdm) (w := w) (n := n) (mv := mv) (rw := rw) (nx := nx) (b := b) (bt := bt) (kn := kn) (en := en) (dn := dn) (rf := rf) (kk := kk) (th := th) ⟨h19, h20, h21, h22, hbb, hbl, hb3⟩ hn1 hn2 gm gr gx 0 1 (by first | assumption | omega) (by first | assumption | omega) (kc := 0) (ks := 0)) hdp (st := []) (Nat.le_of_ble_eq_true rfl) rfl (kr_I fun v47 w47 hv47 hw47 => ?_) kx_I
            obtain ⟨hR47, hFc47⟩ := hw47
            obtain ⟨h19_47, h20_47, h21_47, h22_47, hbb_47, hbl_47, hb3_47⟩ := hR47
            have hF47 := hF.tr hFc47
            subst hv47
            show J X mX8_ring d kc ks 63 [some (.ref 19), some (.int (nI q1)), some (.int (nI q12)), some (.int (nI q23)), some (.int (nI q34))] [.int (nI 1)] w47 _
            refine J_if_eqN (pc := 63) (tgt := 68) dX8_ring_63 (by decide) (by decide) (fun h => absurd h (by decide)) (fun _ => ?_)
            refine J_iconst (pc := 66) (v := nI 0) dX8_ring_66 (by decide) ?_
            exact J_iret (pc := 67) dX8_ring_67 rfl (⟨mv, rw, nx, kn, dn, nI (tW 0 1), ⟨h19_47, h20_47, h21_47, h22_47, hbb_47, hbl_47, hb3_47⟩, hF47, gm, gr, gx, (by first | assumption | exact PM_st hn2 (by assumption) (by assumption) (by assumption)), (by first | assumption | exact Or.inl rfl), (by first | exact Or.inl ⟨rfl, fun g => (by first | exact ne_isN (by assumption) g | exact ne_isN (by assumption) g.1 | exact ne_isN (by assumption) g.2 | exact ne_isN (by assumption) g.2.1 | exact ne_isN (by assumption) g.2.2 | exact ne_isN (by assumption) g.2.2.1 | exact ne_isN (by assumption) g.2.2.2), rfl, rfl, rfl⟩ | exact Or.inr (Or.inl ⟨rfl, ⟨isN_of (by first | assumption | omega), isN_of (by first | assumption | omega), isN_of (by first | assumption | omega), isN_of (by first | assumption | omega)⟩, fun g => (by first | exact g.1 (congrArg nI (by omega)) | exact g.2.1 (congrArg nI (by omega)) | exact g.2.2 (congrArg nI (by omega))), rfl, rfl, rfl⟩) | exact Or.inr (Or.inr (⟨rfl, ⟨_, _, _, _, rfl, rfl, rfl, rfl, by omega, by omega, by omega, by omega, by omega, by omega, by omega, ACT_of hn2 hbe (fun p hp => sw3_is hst ((hy0 _ (by omega)).1 p hp)), hbv⟩, rfl, rfl⟩)))⟩)
          · refine J_iload_n (pc := 43) dX8_ring_43 rfl rfl ?_
            refine J_iload (pc := 44) dX8_ring_44 rfl ?_
            refine J_icmp_eqN (pc := 46) (tgt := 55) dX8_ring_46 (by decide) (by omega) (by omega) (fun ht48 => ?_) (fun hf49 => ?_)
            · refine J_iconst (pc := 55) (v := nI 1) dX8_ring_55 (by decide) ?_
              refine J_goto (pc := 56) (tgt := 60) dX8_ring_56 (by decide) ?_
              refine J_callV0 (pc := 60) (M := mX8_ring) (as := [.int (nI 0), .int (nI 1)]) dX8_ring_60 fw_X8_isThrown fl_X8_35 fm_X8_isThrown fe_X8_isThrown h19 (by decide) rfl rfl rfl (c_X8_isThrown hs (d := d - 1) (Nat.le_trans (by decide) hdm) (w := w) (n := n) (mv := mv) (rw := rw) (nx := nx) (b := b) (bt := bt) (kn := kn) (en := en) (dn := dn) (rf := rf) (kk := kk) (th := th) ⟨h19, h20, h21, h22, hbb, hbl, hb3⟩ hn1 hn2 gm gr gx 0 1 (by first | assumption | omega) (by first | assumption | omega) (kc := 0) (ks := 0)) hdp (st := []) (Nat.le_of_ble_eq_true rfl) rfl (kr_I fun v50 w50 hv50 hw50 => ?_) kx_I
              obtain ⟨hR50, hFc50⟩ := hw50
              obtain ⟨h19_50, h20_50, h21_50, h22_50, hbb_50, hbl_50, hb3_50⟩ := hR50
              have hF50 := hF.tr hFc50
              subst hv50
              show J X mX8_ring d kc ks 63 [some (.ref 19), some (.int (nI q1)), some (.int (nI q12)), some (.int (nI q23)), some (.int (nI q34))] [.int (nI 1)] w50 _
              refine J_if_eqN (pc := 63) (tgt := 68) dX8_ring_63 (by decide) (by decide) (fun h => absurd h (by decide)) (fun _ => ?_)
              refine J_iconst (pc := 66) (v := nI 0) dX8_ring_66 (by decide) ?_
              exact J_iret (pc := 67) dX8_ring_67 rfl (⟨mv, rw, nx, kn, dn, nI (tW 0 1), ⟨h19_50, h20_50, h21_50, h22_50, hbb_50, hbl_50, hb3_50⟩, hF50, gm, gr, gx, (by first | assumption | exact PM_st hn2 (by assumption) (by assumption) (by assumption)), (by first | assumption | exact Or.inl rfl), (by first | exact Or.inl ⟨rfl, fun g => (by first | exact ne_isN (by assumption) g | exact ne_isN (by assumption) g.1 | exact ne_isN (by assumption) g.2 | exact ne_isN (by assumption) g.2.1 | exact ne_isN (by assumption) g.2.2 | exact ne_isN (by assumption) g.2.2.1 | exact ne_isN (by assumption) g.2.2.2), rfl, rfl, rfl⟩ | exact Or.inr (Or.inl ⟨rfl, ⟨isN_of (by first | assumption | omega), isN_of (by first | assumption | omega), isN_of (by first | assumption | omega), isN_of (by first | assumption | omega)⟩, fun g => (by first | exact g.1 (congrArg nI (by omega)) | exact g.2.1 (congrArg nI (by omega)) | exact g.2.2 (congrArg nI (by omega))), rfl, rfl, rfl⟩) | exact Or.inr (Or.inr (⟨rfl, ⟨_, _, _, _, rfl, rfl, rfl, rfl, by omega, by omega, by omega, by omega, by omega, by omega, by omega, ACT_of hn2 hbe (fun p hp => sw3_is hst ((hy0 _ (by omega)).1 p hp)), hbv⟩, rfl, rfl⟩)))⟩)
            · refine J_iload_n (pc := 49) dX8_ring_49 rfl rfl ?_
              refine J_iload (pc := 50) dX8_ring_50 rfl ?_
              refine J_icmp_neN (pc := 52) (tgt := 59) dX8_ring_52 (by decide) (by omega) (by omega) (fun ht51 => ?_) (fun hf52 => ?_)
              · refine J_iconst (pc := 59) (v := nI 0) dX8_ring_59 (by decide) ?_
                refine J_callV0 (pc := 60) (M := mX8_ring) (as := [.int (nI 0), .int (nI 0)]) dX8_ring_60 fw_X8_isThrown fl_X8_35 fm_X8_isThrown fe_X8_isThrown h19 (by decide) rfl rfl rfl (c_X8_isThrown hs (d := d - 1) (Nat.le_trans (by decide) hdm) (w := w) (n := n) (mv := mv) (rw := rw) (nx := nx) (b := b) (bt := bt) (kn := kn) (en := en) (dn := dn) (rf := rf) (kk := kk) (th := th) ⟨h19, h20, h21, h22, hbb, hbl, hb3⟩ hn1 hn2 gm gr gx 0 0 (by first | assumption | omega) (by first | assumption | omega) (kc := 0) (ks := 0)) hdp (st := []) (Nat.le_of_ble_eq_true rfl) rfl (kr_I fun v53 w53 hv53 hw53 => ?_) kx_I
                obtain ⟨hR53, hFc53⟩ := hw53
                obtain ⟨h19_53, h20_53, h21_53, h22_53, hbb_53, hbl_53, hb3_53⟩ := hR53
                have hF53 := hF.tr hFc53
                subst hv53
                show J X mX8_ring d kc ks 63 [some (.ref 19), some (.int (nI q1)), some (.int (nI q12)), some (.int (nI q23)), some (.int (nI q34))] [.int (nI 0)] w53 _
                refine J_if_eqN (pc := 63) (tgt := 68) dX8_ring_63 (by decide) (by decide) (fun _ => ?_) (fun h => absurd h (by decide))
                refine J_aload_n (pc := 68) dX8_ring_68 rfl rfl rfl ?_
                refine J_callV0 (pc := 69) (M := mX8_ring) (as := []) dX8_ring_69 fw_X8_stillRow fl_X8_121 fm_X8_stillRow fe_X8_stillRow h19_53 (by decide) rfl rfl rfl (c_X8_stillRow hs (d := d - 1) (Nat.le_trans (by decide) hdm) (w := w53) (n := n) (mv := mv) (rw := rw) (nx := nx) (b := b) (bt := bt) (kn := kn) (en := en) (dn := dn) (rf := rf) (kk := kk) (th := nI (tW 0 0)) ⟨h19_53, h20_53, h21_53, h22_53, hbb_53, hbl_53, hb3_53⟩ hn1 hn2 gm gr gx  (kc := 0) (ks := 0)) hdp (st := []) (Nat.le_of_ble_eq_true rfl) rfl (kr_V fun w54 hw54 => ?_) kx_V
                obtain ⟨rw54, hR54, hFc54, hgrw54, hp54_0⟩ := hw54
                obtain ⟨h19_54, h20_54, h21_54, h22_54, hbb_54, hbl_54, hb3_54⟩ := hR54
                have hF54 := hF53.tr hFc54
                have hst := hp54_0
                refine J_aload_n (pc := 72) dX8_ring_72 rfl rfl rfl ?_
                refine J_get (pc := 73) (k := 2) dX8_ring_73 kC9 (by decide) ff_X8_17 h19_54 rfl ?_
                refine J_iload_n (pc := 76) dX8_ring_76 rfl rfl ?_
                refine J_iload_n (pc := 77) dX8_ring_77 rfl rfl ?_
                refine J_iastF (pc := 78) dX8_ring_78 h21_54 (by omega) (by decide) (fun w55 hln55 hc55 hne55 => ?_)
                have hg55 : ∀ i, (up rw54 q12 q23) i < 7 := up_b hgrw54 (by omega)
                have h19_55 := (hne55 19 (by decide)).trans h19_54
                have h20_55 := (hne55 20 (by decide)).trans h20_54
                have h22_55 := (hne55 22 (by decide)).trans h22_54
                have hb_55 := (hne55 _ (Nat.ne_of_gt (Nat.lt_of_lt_of_le (by decide) hb3_54))).trans hbb_54
                have hF55 := hF54.st hln55 hne55 (Or.inl (by decide))
                refine J_aload_n (pc := 79) dX8_ring_79 rfl rfl rfl ?_
                refine J_get (pc := 80) (k := 2) dX8_ring_80 kC9 (by decide) ff_X8_17 h19_55 rfl ?_
                refine J_iload_n (pc := 83) dX8_ring_83 rfl rfl ?_
                refine J_iload (pc := 84) dX8_ring_84 rfl ?_
                refine J_iastF (pc := 86) dX8_ring_86 hc55 (by omega) (by decide) (fun w56 hln56 hc56 hne56 => ?_)
                have hg56 : ∀ i, (up (up rw54 q12 q23) q23 q34) i < 7 := up_b hg55 (by omega)
                have h19_56 := (hne56 19 (by decide)).trans h19_55
                have h20_56 := (hne56 20 (by decide)).trans h20_55
                have h22_56 := (hne56 22 (by decide)).trans h22_55
                have hb_56 := (hne56 _ (Nat.ne_of_gt (Nat.lt_of_lt_of_le (by decide) hb3_54))).trans hb_55
                have hF56 := hF55.st hln56 hne56 (Or.inl (by decide))
                refine J_aload_n (pc := 87) dX8_ring_87 rfl rfl rfl ?_
                refine J_get (pc := 88) (k := 2) dX8_ring_88 kC9 (by decide) ff_X8_17 h19_56 rfl ?_
                refine J_iload (pc := 91) dX8_ring_91 rfl ?_
                refine J_iload_n (pc := 93) dX8_ring_93 rfl rfl ?_
                refine J_iastF (pc := 94) dX8_ring_94 hc56 (by omega) (by decide) (fun w57 hln57 hc57 hne57 => ?_)
                have hg57 : ∀ i, (up (up (up rw54 q12 q23) q23 q34) q34 q12) i < 7 := up_b hg56 (by omega)
                have h19_57 := (hne57 19 (by decide)).trans h19_56
                have h20_57 := (hne57 20 (by decide)).trans h20_56
                have h22_57 := (hne57 22 (by decide)).trans h22_56
                have hb_57 := (hne57 _ (Nat.ne_of_gt (Nat.lt_of_lt_of_le (by decide) hb3_54))).trans hb_56
                have hF57 := hF56.st hln57 hne57 (Or.inl (by decide))
                have hPr := Pn_ring (u := q12) (v := q23) (t := q34) hst (by omega) (by omega) (by omega) (by assumption) (by assumption) (by assumption)
                refine J_aload_n (pc := 95) dX8_ring_95 rfl rfl rfl ?_
                refine J_iload_n (pc := 96) dX8_ring_96 rfl rfl ?_
                refine J_aload_n (pc := 97) dX8_ring_97 rfl rfl rfl ?_
                refine J_get (pc := 98) (k := 2) dX8_ring_98 kC9 (by decide) ff_X8_17 h19_57 rfl ?_
                refine J_callV0 (pc := 101) (M := mX8_ring) (as := [.int (nI q1), .ref 21]) dX8_ring_101 fw_X8_behind fl_X8_124 fm_X8_behind fe_X8_behind h19_57 (by decide) rfl rfl rfl (c_X8_behind_ate hs (d := d - 1) (Nat.le_trans (by decide) hdm) (w := w57) (n := n) (mv := mv) (rw := up (up (up rw54 q12 q23) q23 q34) q34 q12) (nx := nx) (b := b) (bt := bt) (kn := kn) (en := en) (dn := dn) (rf := rf) (kk := kk) (th := nI (tW 0 0)) ⟨h19_57, h20_57, hc57, h22_57, hb_57, hbl_54, hb3_54⟩ hn1 hn2 gm hg57 gx q1 (by first | assumption | omega) (by first | assumption | omega) (by first | assumption | omega) (kc := 0) (ks := 0)) hdp (st := []) (Nat.le_of_ble_eq_true rfl) rfl (kr_J fun v58 w58 hw58 => ?_) kx_J
                obtain ⟨mv58, nx58, hR58, hFc58, hgmv58, hgnx58, hp58_0, hp58_1, hp58_2⟩ := hw58
                obtain ⟨h19_58, h20_58, h21_58, h22_58, hbb_58, hbl_58, hb3_58⟩ := hR58
                have hF58 := hF57.tr hFc58
                have hbe := hp58_1
                have hbv := hp58_2
                exact J_iret (pc := 104) dX8_ring_104 rfl (⟨mv58, up (up (up rw54 q12 q23) q23 q34) q34 q12, nx58, (-1), (dn + nI 1), nI (tW 0 0), ⟨h19_58, h20_58, h21_58, h22_58, hbb_58, hbl_58, hb3_58⟩, hF58, hgmv58, hg57, hgnx58, (by first | assumption | exact PM_st hn2 (by assumption) (by assumption) (by assumption)), (by first | assumption | exact Or.inl rfl), (by first | exact Or.inl ⟨rfl, fun g => (by first | exact ne_isN (by assumption) g | exact ne_isN (by assumption) g.1 | exact ne_isN (by assumption) g.2 | exact ne_isN (by assumption) g.2.1 | exact ne_isN (by assumption) g.2.2 | exact ne_isN (by assumption) g.2.2.1 | exact ne_isN (by assumption) g.2.2.2), rfl, rfl, rfl⟩ | exact Or.inr (Or.inl ⟨rfl, ⟨isN_of (by first | assumption | omega), isN_of (by first | assumption | omega), isN_of (by first | assumption | omega), isN_of (by first | assumption | omega)⟩, fun g => (by first | exact g.1 (congrArg nI (by omega)) | exact g.2.1 (congrArg nI (by omega)) | exact g.2.2 (congrArg nI (by omega))), rfl, rfl, rfl⟩) | exact Or.inr (Or.inr (⟨rfl, ⟨_, _, _, _, rfl, rfl, rfl, rfl, by omega, by omega, by omega, by omega, by omega, by omega, by omega, ACT_of hn2 hbe (fun p hp => sw3_is hst ((hy0 _ (by omega)).1 p hp)), hbv⟩, rfl, rfl⟩)))⟩)
              · refine J_iconst (pc := 55) (v := nI 1) dX8_ring_55 (by decide) ?_
                refine J_goto (pc := 56) (tgt := 60) dX8_ring_56 (by decide) ?_
                refine J_callV0 (pc := 60) (M := mX8_ring) (as := [.int (nI 0), .int (nI 1)]) dX8_ring_60 fw_X8_isThrown fl_X8_35 fm_X8_isThrown fe_X8_isThrown h19 (by decide) rfl rfl rfl (c_X8_isThrown hs (d := d - 1) (Nat.le_trans (by decide) hdm) (w := w) (n := n) (mv := mv) (rw := rw) (nx := nx) (b := b) (bt := bt) (kn := kn) (en := en) (dn := dn) (rf := rf) (kk := kk) (th := th) ⟨h19, h20, h21, h22, hbb, hbl, hb3⟩ hn1 hn2 gm gr gx 0 1 (by first | assumption | omega) (by first | assumption | omega) (kc := 0) (ks := 0)) hdp (st := []) (Nat.le_of_ble_eq_true rfl) rfl (kr_I fun v59 w59 hv59 hw59 => ?_) kx_I
                obtain ⟨hR59, hFc59⟩ := hw59
                obtain ⟨h19_59, h20_59, h21_59, h22_59, hbb_59, hbl_59, hb3_59⟩ := hR59
                have hF59 := hF.tr hFc59
                subst hv59
                show J X mX8_ring d kc ks 63 [some (.ref 19), some (.int (nI q1)), some (.int (nI q12)), some (.int (nI q23)), some (.int (nI q34))] [.int (nI 1)] w59 _
                refine J_if_eqN (pc := 63) (tgt := 68) dX8_ring_63 (by decide) (by decide) (fun h => absurd h (by decide)) (fun _ => ?_)
                refine J_iconst (pc := 66) (v := nI 0) dX8_ring_66 (by decide) ?_
                exact J_iret (pc := 67) dX8_ring_67 rfl (⟨mv, rw, nx, kn, dn, nI (tW 0 1), ⟨h19_59, h20_59, h21_59, h22_59, hbb_59, hbl_59, hb3_59⟩, hF59, gm, gr, gx, (by first | assumption | exact PM_st hn2 (by assumption) (by assumption) (by assumption)), (by first | assumption | exact Or.inl rfl), (by first | exact Or.inl ⟨rfl, fun g => (by first | exact ne_isN (by assumption) g | exact ne_isN (by assumption) g.1 | exact ne_isN (by assumption) g.2 | exact ne_isN (by assumption) g.2.1 | exact ne_isN (by assumption) g.2.2 | exact ne_isN (by assumption) g.2.2.1 | exact ne_isN (by assumption) g.2.2.2), rfl, rfl, rfl⟩ | exact Or.inr (Or.inl ⟨rfl, ⟨isN_of (by first | assumption | omega), isN_of (by first | assumption | omega), isN_of (by first | assumption | omega), isN_of (by first | assumption | omega)⟩, fun g => (by first | exact g.1 (congrArg nI (by omega)) | exact g.2.1 (congrArg nI (by omega)) | exact g.2.2 (congrArg nI (by omega))), rfl, rfl, rfl⟩) | exact Or.inr (Or.inr (⟨rfl, ⟨_, _, _, _, rfl, rfl, rfl, rfl, by omega, by omega, by omega, by omega, by omega, by omega, by omega, ACT_of hn2 hbe (fun p hp => sw3_is hst ((hy0 _ (by omega)).1 p hp)), hbv⟩, rfl, rfl⟩)))⟩)
set_option maxRecDepth 100000 in
set_option maxHeartbeats 4000000 in
theorem c_X8_mirror_ate {X : jX} (hs : X.1.stackTraces = false) {d : Nat} (hd : 3 ≤ d) {n : Nat} {mv rw nx : Nat → Nat} {b : Nat} {bt : List Int32} {kn en dn rf kk th : Int32} {w : List jC} (hR : RM n mv rw nx b bt kn en dn rf kk th w) (hn1 : 2 ≤ n) (hn2 : n ≤ 7) (gm : ∀ i, mv i < 7) (gr : ∀ i, rw i < 7) (gx : ∀ i, nx i < 7) (a : Int32) (hy0 : PM n mv) (hy1 : KB n kn bt) {kc ks : Nat} : jMet X mX8_mirror d kc ks [.ref 19, .int a] w (pJ (fun v w' => ∃ (mv' : Nat → Nat), ∃ (rw' : Nat → Nat), ∃ (nx' : Nat → Nat), ∃ (kn' : Int32), ∃ (dn' : Int32), ∃ (th' : Int32), RM n mv' rw' nx' b bt kn' en dn' rf kk th' w' ∧ FR b b w w' ∧ (∀ i, mv' i < 7) ∧ (∀ i, rw' i < 7) ∧ (∀ i, nx' i < 7) ∧ PM n mv' ∧ KB n kn' bt ∧ ((th' = nI 1 ∧ ¬ (isN a 6) ∧ mv' = mv ∧ kn' = kn ∧ dn' = dn) ∨ (th' = nI 0 ∧ (∃ a1 : Nat, a = nI a1 ∧ a1 < 6 ∧ ACT n mv a1 (fun p => n - 1 - mv (a1 * 7 + p)) mv' ∧ v = sgv (iv mv' (a1 * 7) n)) ∧ kn' = (-1) ∧ dn' = (dn + nI 1))))) := by
  refine jMet_of hs (by decide +kernel) (Nat.le_of_ble_eq_true rfl) (L := [some (.ref 19), some (.int a), none]) rfl ?_
  have hdm : 2 ≤ d - 1 := by omega
  have hdp : d - 1 + 1 ≤ d := by omega
  have hfc := fc_7 hn2
  have hfp := fc_pos n
  obtain ⟨h19, h20, h21, h22, hbb, hbl, hb3⟩ := hR
  have hF : FR b b w w := FR.rf
  refine J_aload_n (pc := 0) dX8_mirror_0 rfl rfl rfl ?_
  refine J_iload_n (pc := 1) dX8_mirror_1 rfl rfl ?_
  refine J_callS0 (pc := 2) (M := mX8_mirror) (as := [.int a]) dX8_mirror_2 fw_X8_isCell fl_X8_108 fs_X8_isCell rfl (c_X8_isCell hs (d := d - 1) (Nat.le_trans (by decide) hdm) (w := w) a (kc := 0) (ks := 0)) hdp (st := [.ref 19]) (Nat.le_of_ble_eq_true rfl) rfl (kr_P fun v1 hv1 => ?_) kx_I
  rcases hv1 with ⟨rfl, hk1_0⟩ | ⟨q1, rfl, hk1_0, rfl⟩
  · refine J_if_neN (pc := 5) (tgt := 12) dX8_mirror_5 (by decide) (by decide) (fun h => absurd h (by decide)) (fun _ => ?_)
    refine J_iconst (pc := 8) (v := nI 1) dX8_mirror_8 (by decide) ?_
    refine J_goto (pc := 9) (tgt := 13) dX8_mirror_9 (by decide) ?_
    refine J_callV0 (pc := 13) (M := mX8_mirror) (as := [.int (nI 1)]) dX8_mirror_13 fw_X8_isThrown_ fl_X8_105 fm_X8_isThrown_ fe_X8_isThrown_ h19 (by decide) rfl rfl rfl (c_X8_isThrown_ hs (d := d - 1) (Nat.le_trans (by decide) hdm) (w := w) (n := n) (mv := mv) (rw := rw) (nx := nx) (b := b) (bt := bt) (kn := kn) (en := en) (dn := dn) (rf := rf) (kk := kk) (th := th) ⟨h19, h20, h21, h22, hbb, hbl, hb3⟩ hn1 hn2 gm gr gx 1 (by first | assumption | omega) (kc := 0) (ks := 0)) hdp (st := []) (Nat.le_of_ble_eq_true rfl) rfl (kr_I fun v2 w2 hv2 hw2 => ?_) kx_I
    obtain ⟨hR2, hFc2⟩ := hw2
    obtain ⟨h19_2, h20_2, h21_2, h22_2, hbb_2, hbl_2, hb3_2⟩ := hR2
    have hF2 := hF.tr hFc2
    subst hv2
    show J X mX8_mirror d kc ks 16 [some (.ref 19), some (.int a), none] [.int (nI 1)] w2 _
    refine J_if_eqN (pc := 16) (tgt := 21) dX8_mirror_16 (by decide) (by decide) (fun h => absurd h (by decide)) (fun _ => ?_)
    refine J_iconst (pc := 19) (v := nI 0) dX8_mirror_19 (by decide) ?_
    exact J_iret (pc := 20) dX8_mirror_20 rfl (⟨mv, rw, nx, kn, dn, nI (tW 1 0), ⟨h19_2, h20_2, h21_2, h22_2, hbb_2, hbl_2, hb3_2⟩, hF2, gm, gr, gx, (by first | assumption | exact PM_st hn2 (by assumption) (by assumption) (by assumption)), (by first | assumption | exact Or.inl rfl), (by first | exact Or.inl ⟨rfl, fun g => (by first | exact ne_isN (by assumption) g | exact ne_isN (by assumption) g.1 | exact ne_isN (by assumption) g.2 | exact ne_isN (by assumption) g.2.1 | exact ne_isN (by assumption) g.2.2 | exact ne_isN (by assumption) g.2.2.1 | exact ne_isN (by assumption) g.2.2.2), rfl, rfl, rfl⟩ | exact Or.inr (⟨rfl, ⟨_, rfl, by omega, ACT_of hn2 hbe (fun p hp => hv23_0 _ (Nat.lt_of_lt_of_le (show mv (a * 7 + p) < n from (hy0 _ (by omega)).1 p hp) (by omega))), hbv⟩, rfl, rfl⟩))⟩)
  · refine J_if_neN (pc := 5) (tgt := 12) dX8_mirror_5 (by decide) (by decide) (fun _ => ?_) (fun h => absurd h (by decide))
    refine J_iconst (pc := 12) (v := nI 0) dX8_mirror_12 (by decide) ?_
    refine J_callV0 (pc := 13) (M := mX8_mirror) (as := [.int (nI 0)]) dX8_mirror_13 fw_X8_isThrown_ fl_X8_105 fm_X8_isThrown_ fe_X8_isThrown_ h19 (by decide) rfl rfl rfl (c_X8_isThrown_ hs (d := d - 1) (Nat.le_trans (by decide) hdm) (w := w) (n := n) (mv := mv) (rw := rw) (nx := nx) (b := b) (bt := bt) (kn := kn) (en := en) (dn := dn) (rf := rf) (kk := kk) (th := th) ⟨h19, h20, h21, h22, hbb, hbl, hb3⟩ hn1 hn2 gm gr gx 0 (by first | assumption | omega) (kc := 0) (ks := 0)) hdp (st := []) (Nat.le_of_ble_eq_true rfl) rfl (kr_I fun v3 w3 hv3 hw3 => ?_) kx_I
    obtain ⟨hR3, hFc3⟩ := hw3
    obtain ⟨h19_3, h20_3, h21_3, h22_3, hbb_3, hbl_3, hb3_3⟩ := hR3
    have hF3 := hF.tr hFc3
    subst hv3
    show J X mX8_mirror d kc ks 16 [some (.ref 19), some (.int (nI q1)), none] [.int (nI 0)] w3 _
    refine J_if_eqN (pc := 16) (tgt := 21) dX8_mirror_16 (by decide) (by decide) (fun _ => ?_) (fun h => absurd h (by decide))
    refine J_iconst (pc := 21) (v := nI 0) dX8_mirror_21 (by decide) ?_
    refine J_istore_n (pc := 22) dX8_mirror_22 rfl (by decide) rfl ?_
    show J X mX8_mirror d kc ks 23 [some (.ref 19), some (.int (nI q1)), some (.int (nI 0))] [] w3 _
    have lp23_4 : ∀ (fuel : Nat) (w5 : List jC) (rw_23 : Nat → Nat) (c2 : Nat), (RM n mv rw_23 nx b bt kn en dn rf kk (nI (tW 0 0)) w5) → (FR b b w w5) → (∀ i, rw_23 i < 7) → (∀ p, p < c2 → rw_23 p = n - 1 - p) → (c2 ≤ n) → (n - c2 < fuel) → J X mX8_mirror d kc ks 23 [some (.ref 19), some (.int (nI q1)), some (.int (nI c2))] [] w5 (pJ (fun v w' => ∃ (mv' : Nat → Nat), ∃ (rw' : Nat → Nat), ∃ (nx' : Nat → Nat), ∃ (kn' : Int32), ∃ (dn' : Int32), ∃ (th' : Int32), RM n mv' rw' nx' b bt kn' en dn' rf kk th' w' ∧ FR b b w w' ∧ (∀ i, mv' i < 7) ∧ (∀ i, rw' i < 7) ∧ (∀ i, nx' i < 7) ∧ PM n mv' ∧ KB n kn' bt ∧ ((th' = nI 1 ∧ ¬ (isN (nI q1) 6) ∧ mv' = mv ∧ kn' = kn ∧ dn' = dn) ∨ (th' = nI 0 ∧ (∃ a1 : Nat, (nI q1) = nI a1 ∧ a1 < 6 ∧ ACT n mv a1 (fun p => n - 1 - mv (a1 * 7 + p)) mv' ∧ v = sgv (iv mv' (a1 * 7) n)) ∧ kn' = (-1) ∧ dn' = (dn + nI 1))))) := by
      intro fuellp23_4
      induction fuellp23_4 with
      | zero => intros; omega
      | succ fuellp23_4 ihlp23_4 =>
        intro w5 rw_23 c2 hR6 hF7 gr8 hv23_0 hv23_1 hf9
        obtain ⟨h19_10, h20_10, h21_10, h22_10, hb_10, hbl_10, hb3_10⟩ := hR6
        refine J_iload_n (pc := 23) dX8_mirror_23 rfl rfl ?_
        refine J_aload_n (pc := 24) dX8_mirror_24 rfl rfl rfl ?_
        refine J_get (pc := 25) (k := 0) dX8_mirror_25 kC9 (by decide) ff_X8_7 h19_10 rfl ?_
        refine J_icmp_geN (pc := 28) (tgt := 51) dX8_mirror_28 (by decide) (by omega) (by omega) (fun ht11 => ?_) (fun hf12 => ?_)
        · have hPr := Pn_rev (r := rw_23) (fun p hp => hv23_0 p (by omega))
          refine J_aload_n (pc := 51) dX8_mirror_51 rfl rfl rfl ?_
          refine J_iload_n (pc := 52) dX8_mirror_52 rfl rfl ?_
          refine J_aload_n (pc := 53) dX8_mirror_53 rfl rfl rfl ?_
          refine J_get (pc := 54) (k := 2) dX8_mirror_54 kC9 (by decide) ff_X8_17 h19_10 rfl ?_
          refine J_callV0 (pc := 57) (M := mX8_mirror) (as := [.int (nI q1), .ref 21]) dX8_mirror_57 fw_X8_behind fl_X8_124 fm_X8_behind fe_X8_behind h19_10 (by decide) rfl rfl rfl (c_X8_behind_ate hs (d := d - 1) (Nat.le_trans (by decide) hdm) (w := w5) (n := n) (mv := mv) (rw := rw_23) (nx := nx) (b := b) (bt := bt) (kn := kn) (en := en) (dn := dn) (rf := rf) (kk := kk) (th := nI (tW 0 0)) ⟨h19_10, h20_10, h21_10, h22_10, hb_10, hbl_10, hb3_10⟩ hn1 hn2 gm gr8 gx q1 (by first | assumption | omega) (by first | assumption | omega) (by first | assumption | omega) (kc := 0) (ks := 0)) hdp (st := []) (Nat.le_of_ble_eq_true rfl) rfl (kr_J fun v13 w13 hw13 => ?_) kx_J
          obtain ⟨mv13, nx13, hR13, hFc13, hgmv13, hgnx13, hp13_0, hp13_1, hp13_2⟩ := hw13
          obtain ⟨h19_13, h20_13, h21_13, h22_13, hbb_13, hbl_13, hb3_13⟩ := hR13
          have hF13 := hF7.tr hFc13
          have hbe := hp13_1
          have hbv := hp13_2
          exact J_iret (pc := 60) dX8_mirror_60 rfl (⟨mv13, rw_23, nx13, (-1), (dn + nI 1), nI (tW 0 0), ⟨h19_13, h20_13, h21_13, h22_13, hbb_13, hbl_13, hb3_13⟩, hF13, hgmv13, gr8, hgnx13, (by first | assumption | exact PM_st hn2 (by assumption) (by assumption) (by assumption)), (by first | assumption | exact Or.inl rfl), (by first | exact Or.inl ⟨rfl, fun g => (by first | exact ne_isN (by assumption) g | exact ne_isN (by assumption) g.1 | exact ne_isN (by assumption) g.2 | exact ne_isN (by assumption) g.2.1 | exact ne_isN (by assumption) g.2.2 | exact ne_isN (by assumption) g.2.2.1 | exact ne_isN (by assumption) g.2.2.2), rfl, rfl, rfl⟩ | exact Or.inr (⟨rfl, ⟨_, rfl, by omega, ACT_of hn2 hbe (fun p hp => hv23_0 _ (Nat.lt_of_lt_of_le (show mv (q1 * 7 + p) < n from (hy0 _ (by omega)).1 p hp) (by omega))), hbv⟩, rfl, rfl⟩))⟩)
        · refine J_aload_n (pc := 31) dX8_mirror_31 rfl rfl rfl ?_
          refine J_get (pc := 32) (k := 2) dX8_mirror_32 kC9 (by decide) ff_X8_17 h19_10 rfl ?_
          refine J_iload_n (pc := 35) dX8_mirror_35 rfl rfl ?_
          refine J_aload_n (pc := 36) dX8_mirror_36 rfl rfl rfl ?_
          refine J_get (pc := 37) (k := 0) dX8_mirror_37 kC9 (by decide) ff_X8_7 h19_10 rfl ?_
          refine J_iconst (pc := 40) (v := nI 1) dX8_mirror_40 (by decide) ?_
          refine J_isubN (pc := 41) dX8_mirror_41 (by omega) ?_
          refine J_iload_n (pc := 42) dX8_mirror_42 rfl rfl ?_
          refine J_isubN (pc := 43) dX8_mirror_43 (by omega) ?_
          refine J_iastF (pc := 44) dX8_mirror_44 h21_10 (by omega) (by decide) (fun w14 hln14 hc14 hne14 => ?_)
          have hg14 : ∀ i, (up rw_23 c2 ((n - 1) - c2)) i < 7 := up_b gr8 (by omega)
          have h19_14 := (hne14 19 (by decide)).trans h19_10
          have h20_14 := (hne14 20 (by decide)).trans h20_10
          have h22_14 := (hne14 22 (by decide)).trans h22_10
          have hb_14 := (hne14 _ (Nat.ne_of_gt (Nat.lt_of_lt_of_le (by decide) hb3_10))).trans hb_10
          have hF14 := hF7.st hln14 hne14 (Or.inl (by decide))
          refine J_iincN (pc := 45) (b := 1) dX8_mirror_45 rfl (by decide) (by decide) rfl ?_
          show J X mX8_mirror d kc ks 48 [some (.ref 19), some (.int (nI q1)), some (.int (nI (c2 + 1)))] [] w14 _
          refine J_goto (pc := 48) (tgt := 23) dX8_mirror_48 (by decide) ?_
          exact J_sub (L' := [some (.ref 19), some (.int (nI q1)), some (.int (nI (c2 + 1)))]) ⟨rfl, ⟨rfl, ⟨rfl, trivial⟩⟩⟩ (ihlp23_4 w14 (up rw_23 c2 ((n - 1) - c2)) (c2 + 1) ⟨h19_14, h20_14, hc14, h22_14, hb_14, hbl_10, hb3_10⟩ hF14 hg14 (by intro p hp; by_cases e : p = c2; (subst e; exact up_s _ _ _); (rw [up_n e]; exact hv23_0 p (by omega))) (by first | assumption | omega) (by omega))
    exact J_sub (L' := [some (.ref 19), some (.int (nI q1)), some (.int (nI 0))]) ⟨rfl, ⟨rfl, ⟨rfl, trivial⟩⟩⟩ (lp23_4 _ w3 rw 0 ⟨h19_3, h20_3, h21_3, h22_3, hbb_3, hbl_3, hb3_3⟩ hF3 gr (by intro p hp; omega) (by first | assumption | omega) (Nat.lt_succ_self _))
set_option maxRecDepth 100000 in
set_option maxHeartbeats 4000000 in
theorem c_X8_copy_ate {X : jX} (hs : X.1.stackTraces = false) {d : Nat} (hd : 2 ≤ d) {n : Nat} {mv rw nx : Nat → Nat} {b : Nat} {bt : List Int32} {kn en dn rf kk th : Int32} {w : List jC} (hR : RM n mv rw nx b bt kn en dn rf kk th w) (hn1 : 2 ≤ n) (hn2 : n ≤ 7) (gm : ∀ i, mv i < 7) (gr : ∀ i, rw i < 7) (gx : ∀ i, nx i < 7) (a : Int32) (c : Int32) (hy0 : PM n mv) (hy1 : KB n kn bt) {kc ks : Nat} : jMet X mX8_copy d kc ks [.ref 19, .int a, .int c] w (pJ (fun v w' => ∃ (mv' : Nat → Nat), ∃ (nx' : Nat → Nat), ∃ (kn' : Int32), ∃ (dn' : Int32), ∃ (th' : Int32), RM n mv' rw nx' b bt kn' en dn' rf kk th' w' ∧ FR b b w w' ∧ (∀ i, mv' i < 7) ∧ (∀ i, nx' i < 7) ∧ PM n mv' ∧ KB n kn' bt ∧ ((th' = nI 1 ∧ ¬ (isN a 6 ∧ isN c 6) ∧ mv' = mv ∧ kn' = kn ∧ dn' = dn) ∨ (th' = nI 0 ∧ (∃ a1 b1 : Nat, a = nI a1 ∧ c = nI b1 ∧ a1 < 6 ∧ b1 < 6 ∧ ACT n mv b1 (fun p => mv (a1 * 7 + p)) mv' ∧ ((v = nI 0 ∧ ∀ p, p < n → mv (a1 * 7 + p) = mv (b1 * 7 + p)) ∨ (v = nI 1 ∧ ¬ ∀ p, p < n → mv (a1 * 7 + p) = mv (b1 * 7 + p)))) ∧ kn' = (-1) ∧ dn' = (dn + nI 1))))) := by
  refine jMet_of hs (by decide +kernel) (Nat.le_of_ble_eq_true rfl) (L := [some (.ref 19), some (.int a), some (.int c), none, none]) rfl ?_
  have hdm : 1 ≤ d - 1 := by omega
  have hdp : d - 1 + 1 ≤ d := by omega
  have hfc := fc_7 hn2
  have hfp := fc_pos n
  obtain ⟨h19, h20, h21, h22, hbb, hbl, hb3⟩ := hR
  have hF : FR b b w w := FR.rf
  refine J_aload_n (pc := 0) dX8_copy_0 rfl rfl rfl ?_
  refine J_iload_n (pc := 1) dX8_copy_1 rfl rfl ?_
  refine J_callS0 (pc := 2) (M := mX8_copy) (as := [.int a]) dX8_copy_2 fw_X8_isCell fl_X8_108 fs_X8_isCell rfl (c_X8_isCell hs (d := d - 1) (Nat.le_trans (by decide) hdm) (w := w) a (kc := 0) (ks := 0)) hdp (st := [.ref 19]) (Nat.le_of_ble_eq_true rfl) rfl (kr_P fun v1 hv1 => ?_) kx_I
  rcases hv1 with ⟨rfl, hk1_0⟩ | ⟨q1, rfl, hk1_0, rfl⟩
  · refine J_if_eqN (pc := 5) (tgt := 15) dX8_copy_5 (by decide) (by decide) (fun _ => ?_) (fun h => absurd h (by decide))
    refine J_iconst (pc := 15) (v := nI 1) dX8_copy_15 (by decide) ?_
    refine J_goto (pc := 16) (tgt := 20) dX8_copy_16 (by decide) ?_
    refine J_callV0 (pc := 20) (M := mX8_copy) (as := [.int (nI 1)]) dX8_copy_20 fw_X8_isThrown_ fl_X8_105 fm_X8_isThrown_ fe_X8_isThrown_ h19 (by decide) rfl rfl rfl (c_X8_isThrown_ hs (d := d - 1) (Nat.le_trans (by decide) hdm) (w := w) (n := n) (mv := mv) (rw := rw) (nx := nx) (b := b) (bt := bt) (kn := kn) (en := en) (dn := dn) (rf := rf) (kk := kk) (th := th) ⟨h19, h20, h21, h22, hbb, hbl, hb3⟩ hn1 hn2 gm gr gx 1 (by first | assumption | omega) (kc := 0) (ks := 0)) hdp (st := []) (Nat.le_of_ble_eq_true rfl) rfl (kr_I fun v2 w2 hv2 hw2 => ?_) kx_I
    obtain ⟨hR2, hFc2⟩ := hw2
    obtain ⟨h19_2, h20_2, h21_2, h22_2, hbb_2, hbl_2, hb3_2⟩ := hR2
    have hF2 := hF.tr hFc2
    subst hv2
    show J X mX8_copy d kc ks 23 [some (.ref 19), some (.int a), some (.int c), none, none] [.int (nI 1)] w2 _
    refine J_if_eqN (pc := 23) (tgt := 28) dX8_copy_23 (by decide) (by decide) (fun h => absurd h (by decide)) (fun _ => ?_)
    refine J_iconst (pc := 26) (v := nI 0) dX8_copy_26 (by decide) ?_
    exact J_iret (pc := 27) dX8_copy_27 rfl (⟨mv, nx, kn, dn, nI (tW 1 0), ⟨h19_2, h20_2, h21_2, h22_2, hbb_2, hbl_2, hb3_2⟩, hF2, gm, gx, (by first | assumption | exact PM_st hn2 (by assumption) (by assumption) (by assumption)), (by first | assumption | exact Or.inl rfl), (by first | exact Or.inl ⟨rfl, fun g => (by first | exact ne_isN (by assumption) g | exact ne_isN (by assumption) g.1 | exact ne_isN (by assumption) g.2 | exact ne_isN (by assumption) g.2.1 | exact ne_isN (by assumption) g.2.2 | exact ne_isN (by assumption) g.2.2.1 | exact ne_isN (by assumption) g.2.2.2), rfl, rfl, rfl⟩ | exact Or.inr (⟨rfl, ⟨_, _, rfl, rfl, by omega, by omega, ACT_of hn2 hgt (fun p hp => hv38_0 p (by omega)), (by first | exact Or.inl ⟨rfl, by assumption⟩ | exact Or.inr ⟨rfl, by assumption⟩)⟩, rfl, rfl⟩))⟩)
  · refine J_if_eqN (pc := 5) (tgt := 15) dX8_copy_5 (by decide) (by decide) (fun h => absurd h (by decide)) (fun _ => ?_)
    refine J_iload_n (pc := 8) dX8_copy_8 rfl rfl ?_
    refine J_callS0 (pc := 9) (M := mX8_copy) (as := [.int c]) dX8_copy_9 fw_X8_isCell fl_X8_108 fs_X8_isCell rfl (c_X8_isCell hs (d := d - 1) (Nat.le_trans (by decide) hdm) (w := w) c (kc := 0) (ks := 0)) hdp (st := [.ref 19]) (Nat.le_of_ble_eq_true rfl) rfl (kr_P fun v3 hv3 => ?_) kx_I
    rcases hv3 with ⟨rfl, hk3_0⟩ | ⟨q3, rfl, hk3_0, rfl⟩
    · refine J_if_neN (pc := 12) (tgt := 19) dX8_copy_12 (by decide) (by decide) (fun h => absurd h (by decide)) (fun _ => ?_)
      refine J_iconst (pc := 15) (v := nI 1) dX8_copy_15 (by decide) ?_
      refine J_goto (pc := 16) (tgt := 20) dX8_copy_16 (by decide) ?_
      refine J_callV0 (pc := 20) (M := mX8_copy) (as := [.int (nI 1)]) dX8_copy_20 fw_X8_isThrown_ fl_X8_105 fm_X8_isThrown_ fe_X8_isThrown_ h19 (by decide) rfl rfl rfl (c_X8_isThrown_ hs (d := d - 1) (Nat.le_trans (by decide) hdm) (w := w) (n := n) (mv := mv) (rw := rw) (nx := nx) (b := b) (bt := bt) (kn := kn) (en := en) (dn := dn) (rf := rf) (kk := kk) (th := th) ⟨h19, h20, h21, h22, hbb, hbl, hb3⟩ hn1 hn2 gm gr gx 1 (by first | assumption | omega) (kc := 0) (ks := 0)) hdp (st := []) (Nat.le_of_ble_eq_true rfl) rfl (kr_I fun v4 w4 hv4 hw4 => ?_) kx_I
      obtain ⟨hR4, hFc4⟩ := hw4
      obtain ⟨h19_4, h20_4, h21_4, h22_4, hbb_4, hbl_4, hb3_4⟩ := hR4
      have hF4 := hF.tr hFc4
      subst hv4
      show J X mX8_copy d kc ks 23 [some (.ref 19), some (.int (nI q1)), some (.int c), none, none] [.int (nI 1)] w4 _
      refine J_if_eqN (pc := 23) (tgt := 28) dX8_copy_23 (by decide) (by decide) (fun h => absurd h (by decide)) (fun _ => ?_)
      refine J_iconst (pc := 26) (v := nI 0) dX8_copy_26 (by decide) ?_
      exact J_iret (pc := 27) dX8_copy_27 rfl (⟨mv, nx, kn, dn, nI (tW 1 0), ⟨h19_4, h20_4, h21_4, h22_4, hbb_4, hbl_4, hb3_4⟩, hF4, gm, gx, (by first | assumption | exact PM_st hn2 (by assumption) (by assumption) (by assumption)), (by first | assumption | exact Or.inl rfl), (by first | exact Or.inl ⟨rfl, fun g => (by first | exact ne_isN (by assumption) g | exact ne_isN (by assumption) g.1 | exact ne_isN (by assumption) g.2 | exact ne_isN (by assumption) g.2.1 | exact ne_isN (by assumption) g.2.2 | exact ne_isN (by assumption) g.2.2.1 | exact ne_isN (by assumption) g.2.2.2), rfl, rfl, rfl⟩ | exact Or.inr (⟨rfl, ⟨_, _, rfl, rfl, by omega, by omega, ACT_of hn2 hgt (fun p hp => hv38_0 p (by omega)), (by first | exact Or.inl ⟨rfl, by assumption⟩ | exact Or.inr ⟨rfl, by assumption⟩)⟩, rfl, rfl⟩))⟩)
    · refine J_if_neN (pc := 12) (tgt := 19) dX8_copy_12 (by decide) (by decide) (fun _ => ?_) (fun h => absurd h (by decide))
      refine J_iconst (pc := 19) (v := nI 0) dX8_copy_19 (by decide) ?_
      refine J_callV0 (pc := 20) (M := mX8_copy) (as := [.int (nI 0)]) dX8_copy_20 fw_X8_isThrown_ fl_X8_105 fm_X8_isThrown_ fe_X8_isThrown_ h19 (by decide) rfl rfl rfl (c_X8_isThrown_ hs (d := d - 1) (Nat.le_trans (by decide) hdm) (w := w) (n := n) (mv := mv) (rw := rw) (nx := nx) (b := b) (bt := bt) (kn := kn) (en := en) (dn := dn) (rf := rf) (kk := kk) (th := th) ⟨h19, h20, h21, h22, hbb, hbl, hb3⟩ hn1 hn2 gm gr gx 0 (by first | assumption | omega) (kc := 0) (ks := 0)) hdp (st := []) (Nat.le_of_ble_eq_true rfl) rfl (kr_I fun v5 w5 hv5 hw5 => ?_) kx_I
      obtain ⟨hR5, hFc5⟩ := hw5
      obtain ⟨h19_5, h20_5, h21_5, h22_5, hbb_5, hbl_5, hb3_5⟩ := hR5
      have hF5 := hF.tr hFc5
      subst hv5
      show J X mX8_copy d kc ks 23 [some (.ref 19), some (.int (nI q1)), some (.int (nI q3)), none, none] [.int (nI 0)] w5 _
      refine J_if_eqN (pc := 23) (tgt := 28) dX8_copy_23 (by decide) (by decide) (fun _ => ?_) (fun h => absurd h (by decide))
      refine J_aload_n (pc := 28) dX8_copy_28 rfl rfl rfl ?_
      refine J_iload_n (pc := 29) dX8_copy_29 rfl rfl ?_
      refine J_iload_n (pc := 30) dX8_copy_30 rfl rfl ?_
      refine J_callV0 (pc := 31) (M := mX8_copy) (as := [.int (nI q1), .int (nI q3)]) dX8_copy_31 fw_X8_areUnlike fl_X8_127 fm_X8_areUnlike fe_X8_areUnlike h19_5 (by decide) rfl rfl rfl (c_X8_areUnlike_atx hs (d := d - 1) (Nat.le_trans (by decide) hdm) (w := w5) (n := n) (mv := mv) (rw := rw) (nx := nx) (b := b) (bt := bt) (kn := kn) (en := en) (dn := dn) (rf := rf) (kk := kk) (th := nI (tW 0 0)) ⟨h19_5, h20_5, h21_5, h22_5, hbb_5, hbl_5, hb3_5⟩ hn1 hn2 gm gr gx q1 q3 (by first | assumption | omega) (by first | assumption | omega) (kc := 0) (ks := 0)) hdp (st := []) (Nat.le_of_ble_eq_true rfl) rfl (kr_P fun v6 hv6 => ?_) kx_I
      rcases hv6 with ⟨rfl, hk6_0⟩ | ⟨rfl, hk6_0⟩
      · refine J_istore_n (pc := 34) dX8_copy_34 rfl (by decide) rfl ?_
        show J X mX8_copy d kc ks 35 [some (.ref 19), some (.int (nI q1)), some (.int (nI q3)), some (.int (nI 0)), none] [] w5 _
        refine J_iconst (pc := 35) (v := nI 0) dX8_copy_35 (by decide) ?_
        refine J_istore (pc := 36) dX8_copy_36 (by decide) rfl ?_
        show J X mX8_copy d kc ks 38 [some (.ref 19), some (.int (nI q1)), some (.int (nI q3)), some (.int (nI 0)), some (.int (nI 0))] [] w5 _
        have lp38_7 : ∀ (fuel : Nat) (w8 : List jC) (nx_38 : Nat → Nat) (c4 : Nat), (RM n mv rw nx_38 b bt kn en dn rf kk (nI (tW 0 0)) w8) → (FR b b w w8) → (∀ i, nx_38 i < 7) → (∀ p, p < c4 → nx_38 p = mv (q1 * 7 + p)) → (c4 ≤ n) → (n - c4 < fuel) → J X mX8_copy d kc ks 38 [some (.ref 19), some (.int (nI q1)), some (.int (nI q3)), some (.int (nI 0)), some (.int (nI c4))] [] w8 (pJ (fun v w' => ∃ (mv' : Nat → Nat), ∃ (nx' : Nat → Nat), ∃ (kn' : Int32), ∃ (dn' : Int32), ∃ (th' : Int32), RM n mv' rw nx' b bt kn' en dn' rf kk th' w' ∧ FR b b w w' ∧ (∀ i, mv' i < 7) ∧ (∀ i, nx' i < 7) ∧ PM n mv' ∧ KB n kn' bt ∧ ((th' = nI 1 ∧ ¬ (isN (nI q1) 6 ∧ isN (nI q3) 6) ∧ mv' = mv ∧ kn' = kn ∧ dn' = dn) ∨ (th' = nI 0 ∧ (∃ a1 b1 : Nat, (nI q1) = nI a1 ∧ (nI q3) = nI b1 ∧ a1 < 6 ∧ b1 < 6 ∧ ACT n mv b1 (fun p => mv (a1 * 7 + p)) mv' ∧ ((v = nI 0 ∧ ∀ p, p < n → mv (a1 * 7 + p) = mv (b1 * 7 + p)) ∨ (v = nI 1 ∧ ¬ ∀ p, p < n → mv (a1 * 7 + p) = mv (b1 * 7 + p)))) ∧ kn' = (-1) ∧ dn' = (dn + nI 1))))) := by
          intro fuellp38_7
          induction fuellp38_7 with
          | zero => intros; omega
          | succ fuellp38_7 ihlp38_7 =>
            intro w8 nx_38 c4 hR9 hF10 gx11 hv38_0 hv38_1 hf12
            obtain ⟨h19_13, h20_13, h21_13, h22_13, hb_13, hbl_13, hb3_13⟩ := hR9
            refine J_iload (pc := 38) dX8_copy_38 rfl ?_
            refine J_aload_n (pc := 40) dX8_copy_40 rfl rfl rfl ?_
            refine J_get (pc := 41) (k := 0) dX8_copy_41 kC9 (by decide) ff_X8_7 h19_13 rfl ?_
            refine J_icmp_geN (pc := 44) (tgt := 67) dX8_copy_44 (by decide) (by omega) (by omega) (fun ht14 => ?_) (fun hf15 => ?_)
            · have hPx := (hy0 q1 (by omega)).congr (g := nx_38) (fun p hp => hv38_0 p (by omega))
              refine J_aload_n (pc := 67) dX8_copy_67 rfl rfl rfl ?_
              refine J_iload_n (pc := 68) dX8_copy_68 rfl rfl ?_
              refine J_aload_n (pc := 69) dX8_copy_69 rfl rfl rfl ?_
              refine J_get (pc := 70) (k := 3) dX8_copy_70 kC9 (by decide) ff_X8_20 h19_13 rfl ?_
              refine J_callV0 (pc := 73) (M := mX8_copy) (as := [.int (nI q3), .ref 22]) dX8_copy_73 fw_X8_get fl_X8_111 fm_X8_get fe_X8_get h19_13 (by decide) rfl rfl rfl (c_X8_get_at22 hs (d := d - 1) (Nat.le_trans (by decide) hdm) (w := w8) (n := n) (mv := mv) (rw := rw) (nx := nx_38) (b := b) (bt := bt) (kn := kn) (en := en) (dn := dn) (rf := rf) (kk := kk) (th := nI (tW 0 0)) ⟨h19_13, h20_13, h21_13, h22_13, hb_13, hbl_13, hb3_13⟩ hn1 hn2 gm gr gx11 q3 (by first | assumption | omega) (kc := 0) (ks := 0)) hdp (st := []) (Nat.le_of_ble_eq_true rfl) rfl (kr_I fun v16 w16 hv16 hw16 => ?_) kx_I
              obtain ⟨mv16, hR16, hFc16, hgmv16, hp16_0⟩ := hw16
              obtain ⟨h19_16, h20_16, h21_16, h22_16, hbb_16, hbl_16, hb3_16⟩ := hR16
              have hF16 := hF10.tr hFc16
              subst hv16
              have hgt := hp16_0
              refine J_pop (pc := 76) dX8_copy_76 rfl ?_
              refine J_iload_n (pc := 77) dX8_copy_77 rfl rfl ?_
              refine J_if_eqN (pc := 78) (tgt := 85) dX8_copy_78 (by decide) (by decide) (fun _ => ?_) (fun h => absurd h (by decide))
              refine J_iconst (pc := 85) (v := nI 0) dX8_copy_85 (by decide) ?_
              exact J_iret (pc := 86) dX8_copy_86 rfl (⟨mv16, nx_38, (-1), (dn + nI 1), nI (tW 0 0), ⟨h19_16, h20_16, h21_16, h22_16, hbb_16, hbl_16, hb3_16⟩, hF16, hgmv16, gx11, (by first | assumption | exact PM_st hn2 (by assumption) (by assumption) (by assumption)), (by first | assumption | exact Or.inl rfl), (by first | exact Or.inl ⟨rfl, fun g => (by first | exact ne_isN (by assumption) g | exact ne_isN (by assumption) g.1 | exact ne_isN (by assumption) g.2 | exact ne_isN (by assumption) g.2.1 | exact ne_isN (by assumption) g.2.2 | exact ne_isN (by assumption) g.2.2.1 | exact ne_isN (by assumption) g.2.2.2), rfl, rfl, rfl⟩ | exact Or.inr (⟨rfl, ⟨_, _, rfl, rfl, by omega, by omega, ACT_of hn2 hgt (fun p hp => hv38_0 p (by omega)), (by first | exact Or.inl ⟨rfl, by assumption⟩ | exact Or.inr ⟨rfl, by assumption⟩)⟩, rfl, rfl⟩))⟩)
            · refine J_aload_n (pc := 47) dX8_copy_47 rfl rfl rfl ?_
              refine J_get (pc := 48) (k := 3) dX8_copy_48 kC9 (by decide) ff_X8_20 h19_13 rfl ?_
              refine J_iload (pc := 51) dX8_copy_51 rfl ?_
              refine J_aload_n (pc := 53) dX8_copy_53 rfl rfl rfl ?_
              refine J_iload_n (pc := 54) dX8_copy_54 rfl rfl ?_
              refine J_iload (pc := 55) dX8_copy_55 rfl ?_
              refine J_callV0 (pc := 57) (M := mX8_copy) (as := [.int (nI q1), .int (nI c4)]) dX8_copy_57 fw_X8_at fl_X8_82 fm_X8_at fe_X8_at h19_13 (by decide) rfl rfl rfl (c_X8_at hs (d := d - 1) (Nat.le_trans (by decide) hdm) (w := w8) (n := n) (mv := mv) (rw := rw) (nx := nx_38) (b := b) (bt := bt) (kn := kn) (en := en) (dn := dn) (rf := rf) (kk := kk) (th := nI (tW 0 0)) ⟨h19_13, h20_13, h21_13, h22_13, hb_13, hbl_13, hb3_13⟩ hn1 hn2 gm gr gx11 q1 c4 (by first | assumption | omega) (by first | assumption | omega) (kc := 0) (ks := 0)) hdp (st := [.int (nI c4), .ref 22]) (Nat.le_of_ble_eq_true rfl) rfl (kr_P fun v17 hv17 => ?_) kx_I
              subst hv17
              have hq18 := gm (q1 * 7 + c4)
              refine J_iastF (pc := 60) dX8_copy_60 h22_13 (by omega) (by decide) (fun w19 hln19 hc19 hne19 => ?_)
              have hg19 : ∀ i, (up nx_38 c4 (mv (q1 * 7 + c4))) i < 7 := up_b gx11 (by omega)
              have h19_19 := (hne19 19 (by decide)).trans h19_13
              have h20_19 := (hne19 20 (by decide)).trans h20_13
              have h21_19 := (hne19 21 (by decide)).trans h21_13
              have hb_19 := (hne19 _ (Nat.ne_of_gt (Nat.lt_of_lt_of_le (by decide) hb3_13))).trans hb_13
              have hF19 := hF10.st hln19 hne19 (Or.inl (by decide))
              refine J_iincN (pc := 61) (b := 1) dX8_copy_61 rfl (by decide) (by decide) rfl ?_
              show J X mX8_copy d kc ks 64 [some (.ref 19), some (.int (nI q1)), some (.int (nI q3)), some (.int (nI 0)), some (.int (nI (c4 + 1)))] [] w19 _
              refine J_goto (pc := 64) (tgt := 38) dX8_copy_64 (by decide) ?_
              exact J_sub (L' := [some (.ref 19), some (.int (nI q1)), some (.int (nI q3)), some (.int (nI 0)), some (.int (nI (c4 + 1)))]) ⟨rfl, ⟨rfl, ⟨rfl, ⟨rfl, ⟨rfl, trivial⟩⟩⟩⟩⟩ (ihlp38_7 w19 (up nx_38 c4 (mv (q1 * 7 + c4))) (c4 + 1) ⟨h19_19, h20_19, h21_19, hc19, hb_19, hbl_13, hb3_13⟩ hF19 hg19 (by intro p hp; by_cases e : p = c4; (subst e; exact up_s _ _ _); (rw [up_n e]; exact hv38_0 p (by omega))) (by first | assumption | omega) (by omega))
        exact J_sub (L' := [some (.ref 19), some (.int (nI q1)), some (.int (nI q3)), some (.int (nI 0)), some (.int (nI 0))]) ⟨rfl, ⟨rfl, ⟨rfl, ⟨rfl, ⟨rfl, trivial⟩⟩⟩⟩⟩ (lp38_7 _ w5 nx 0 ⟨h19_5, h20_5, h21_5, h22_5, hbb_5, hbl_5, hb3_5⟩ hF5 gx (by intro p hp; omega) (by first | assumption | omega) (Nat.lt_succ_self _))
      · refine J_istore_n (pc := 34) dX8_copy_34 rfl (by decide) rfl ?_
        show J X mX8_copy d kc ks 35 [some (.ref 19), some (.int (nI q1)), some (.int (nI q3)), some (.int (nI 1)), none] [] w5 _
        refine J_iconst (pc := 35) (v := nI 0) dX8_copy_35 (by decide) ?_
        refine J_istore (pc := 36) dX8_copy_36 (by decide) rfl ?_
        show J X mX8_copy d kc ks 38 [some (.ref 19), some (.int (nI q1)), some (.int (nI q3)), some (.int (nI 1)), some (.int (nI 0))] [] w5 _
        have lp38_20 : ∀ (fuel : Nat) (w21 : List jC) (nx_38 : Nat → Nat) (c4 : Nat), (RM n mv rw nx_38 b bt kn en dn rf kk (nI (tW 0 0)) w21) → (FR b b w w21) → (∀ i, nx_38 i < 7) → (∀ p, p < c4 → nx_38 p = mv (q1 * 7 + p)) → (c4 ≤ n) → (n - c4 < fuel) → J X mX8_copy d kc ks 38 [some (.ref 19), some (.int (nI q1)), some (.int (nI q3)), some (.int (nI 1)), some (.int (nI c4))] [] w21 (pJ (fun v w' => ∃ (mv' : Nat → Nat), ∃ (nx' : Nat → Nat), ∃ (kn' : Int32), ∃ (dn' : Int32), ∃ (th' : Int32), RM n mv' rw nx' b bt kn' en dn' rf kk th' w' ∧ FR b b w w' ∧ (∀ i, mv' i < 7) ∧ (∀ i, nx' i < 7) ∧ PM n mv' ∧ KB n kn' bt ∧ ((th' = nI 1 ∧ ¬ (isN (nI q1) 6 ∧ isN (nI q3) 6) ∧ mv' = mv ∧ kn' = kn ∧ dn' = dn) ∨ (th' = nI 0 ∧ (∃ a1 b1 : Nat, (nI q1) = nI a1 ∧ (nI q3) = nI b1 ∧ a1 < 6 ∧ b1 < 6 ∧ ACT n mv b1 (fun p => mv (a1 * 7 + p)) mv' ∧ ((v = nI 0 ∧ ∀ p, p < n → mv (a1 * 7 + p) = mv (b1 * 7 + p)) ∨ (v = nI 1 ∧ ¬ ∀ p, p < n → mv (a1 * 7 + p) = mv (b1 * 7 + p)))) ∧ kn' = (-1) ∧ dn' = (dn + nI 1))))) := by
          intro fuellp38_20
          induction fuellp38_20 with
          | zero => intros; omega
          | succ fuellp38_20 ihlp38_20 =>
            intro w21 nx_38 c4 hR22 hF23 gx24 hv38_0 hv38_1 hf25
            obtain ⟨h19_26, h20_26, h21_26, h22_26, hb_26, hbl_26, hb3_26⟩ := hR22
            refine J_iload (pc := 38) dX8_copy_38 rfl ?_
            refine J_aload_n (pc := 40) dX8_copy_40 rfl rfl rfl ?_
            refine J_get (pc := 41) (k := 0) dX8_copy_41 kC9 (by decide) ff_X8_7 h19_26 rfl ?_
            refine J_icmp_geN (pc := 44) (tgt := 67) dX8_copy_44 (by decide) (by omega) (by omega) (fun ht27 => ?_) (fun hf28 => ?_)
            · have hPx := (hy0 q1 (by omega)).congr (g := nx_38) (fun p hp => hv38_0 p (by omega))
              refine J_aload_n (pc := 67) dX8_copy_67 rfl rfl rfl ?_
              refine J_iload_n (pc := 68) dX8_copy_68 rfl rfl ?_
              refine J_aload_n (pc := 69) dX8_copy_69 rfl rfl rfl ?_
              refine J_get (pc := 70) (k := 3) dX8_copy_70 kC9 (by decide) ff_X8_20 h19_26 rfl ?_
              refine J_callV0 (pc := 73) (M := mX8_copy) (as := [.int (nI q3), .ref 22]) dX8_copy_73 fw_X8_get fl_X8_111 fm_X8_get fe_X8_get h19_26 (by decide) rfl rfl rfl (c_X8_get_at22 hs (d := d - 1) (Nat.le_trans (by decide) hdm) (w := w21) (n := n) (mv := mv) (rw := rw) (nx := nx_38) (b := b) (bt := bt) (kn := kn) (en := en) (dn := dn) (rf := rf) (kk := kk) (th := nI (tW 0 0)) ⟨h19_26, h20_26, h21_26, h22_26, hb_26, hbl_26, hb3_26⟩ hn1 hn2 gm gr gx24 q3 (by first | assumption | omega) (kc := 0) (ks := 0)) hdp (st := []) (Nat.le_of_ble_eq_true rfl) rfl (kr_I fun v29 w29 hv29 hw29 => ?_) kx_I
              obtain ⟨mv29, hR29, hFc29, hgmv29, hp29_0⟩ := hw29
              obtain ⟨h19_29, h20_29, h21_29, h22_29, hbb_29, hbl_29, hb3_29⟩ := hR29
              have hF29 := hF23.tr hFc29
              subst hv29
              have hgt := hp29_0
              refine J_pop (pc := 76) dX8_copy_76 rfl ?_
              refine J_iload_n (pc := 77) dX8_copy_77 rfl rfl ?_
              refine J_if_eqN (pc := 78) (tgt := 85) dX8_copy_78 (by decide) (by decide) (fun h => absurd h (by decide)) (fun _ => ?_)
              refine J_iconst (pc := 81) (v := nI 1) dX8_copy_81 (by decide) ?_
              refine J_goto (pc := 82) (tgt := 86) dX8_copy_82 (by decide) ?_
              exact J_iret (pc := 86) dX8_copy_86 rfl (⟨mv29, nx_38, (-1), (dn + nI 1), nI (tW 0 0), ⟨h19_29, h20_29, h21_29, h22_29, hbb_29, hbl_29, hb3_29⟩, hF29, hgmv29, gx24, (by first | assumption | exact PM_st hn2 (by assumption) (by assumption) (by assumption)), (by first | assumption | exact Or.inl rfl), (by first | exact Or.inl ⟨rfl, fun g => (by first | exact ne_isN (by assumption) g | exact ne_isN (by assumption) g.1 | exact ne_isN (by assumption) g.2 | exact ne_isN (by assumption) g.2.1 | exact ne_isN (by assumption) g.2.2 | exact ne_isN (by assumption) g.2.2.1 | exact ne_isN (by assumption) g.2.2.2), rfl, rfl, rfl⟩ | exact Or.inr (⟨rfl, ⟨_, _, rfl, rfl, by omega, by omega, ACT_of hn2 hgt (fun p hp => hv38_0 p (by omega)), (by first | exact Or.inl ⟨rfl, by assumption⟩ | exact Or.inr ⟨rfl, by assumption⟩)⟩, rfl, rfl⟩))⟩)
            · refine J_aload_n (pc := 47) dX8_copy_47 rfl rfl rfl ?_
              refine J_get (pc := 48) (k := 3) dX8_copy_48 kC9 (by decide) ff_X8_20 h19_26 rfl ?_
              refine J_iload (pc := 51) dX8_copy_51 rfl ?_
              refine J_aload_n (pc := 53) dX8_copy_53 rfl rfl rfl ?_
              refine J_iload_n (pc := 54) dX8_copy_54 rfl rfl ?_
              refine J_iload (pc := 55) dX8_copy_55 rfl ?_
              refine J_callV0 (pc := 57) (M := mX8_copy) (as := [.int (nI q1), .int (nI c4)]) dX8_copy_57 fw_X8_at fl_X8_82 fm_X8_at fe_X8_at h19_26 (by decide) rfl rfl rfl (c_X8_at hs (d := d - 1) (Nat.le_trans (by decide) hdm) (w := w21) (n := n) (mv := mv) (rw := rw) (nx := nx_38) (b := b) (bt := bt) (kn := kn) (en := en) (dn := dn) (rf := rf) (kk := kk) (th := nI (tW 0 0)) ⟨h19_26, h20_26, h21_26, h22_26, hb_26, hbl_26, hb3_26⟩ hn1 hn2 gm gr gx24 q1 c4 (by first | assumption | omega) (by first | assumption | omega) (kc := 0) (ks := 0)) hdp (st := [.int (nI c4), .ref 22]) (Nat.le_of_ble_eq_true rfl) rfl (kr_P fun v30 hv30 => ?_) kx_I
              subst hv30
              have hq31 := gm (q1 * 7 + c4)
              refine J_iastF (pc := 60) dX8_copy_60 h22_26 (by omega) (by decide) (fun w32 hln32 hc32 hne32 => ?_)
              have hg32 : ∀ i, (up nx_38 c4 (mv (q1 * 7 + c4))) i < 7 := up_b gx24 (by omega)
              have h19_32 := (hne32 19 (by decide)).trans h19_26
              have h20_32 := (hne32 20 (by decide)).trans h20_26
              have h21_32 := (hne32 21 (by decide)).trans h21_26
              have hb_32 := (hne32 _ (Nat.ne_of_gt (Nat.lt_of_lt_of_le (by decide) hb3_26))).trans hb_26
              have hF32 := hF23.st hln32 hne32 (Or.inl (by decide))
              refine J_iincN (pc := 61) (b := 1) dX8_copy_61 rfl (by decide) (by decide) rfl ?_
              show J X mX8_copy d kc ks 64 [some (.ref 19), some (.int (nI q1)), some (.int (nI q3)), some (.int (nI 1)), some (.int (nI (c4 + 1)))] [] w32 _
              refine J_goto (pc := 64) (tgt := 38) dX8_copy_64 (by decide) ?_
              exact J_sub (L' := [some (.ref 19), some (.int (nI q1)), some (.int (nI q3)), some (.int (nI 1)), some (.int (nI (c4 + 1)))]) ⟨rfl, ⟨rfl, ⟨rfl, ⟨rfl, ⟨rfl, trivial⟩⟩⟩⟩⟩ (ihlp38_20 w32 (up nx_38 c4 (mv (q1 * 7 + c4))) (c4 + 1) ⟨h19_32, h20_32, h21_32, hc32, hb_32, hbl_26, hb3_26⟩ hF32 hg32 (by intro p hp; by_cases e : p = c4; (subst e; exact up_s _ _ _); (rw [up_n e]; exact hv38_0 p (by omega))) (by first | assumption | omega) (by omega))
        exact J_sub (L' := [some (.ref 19), some (.int (nI q1)), some (.int (nI q3)), some (.int (nI 1)), some (.int (nI 0))]) ⟨rfl, ⟨rfl, ⟨rfl, ⟨rfl, ⟨rfl, trivial⟩⟩⟩⟩⟩ (lp38_20 _ w5 nx 0 ⟨h19_5, h20_5, h21_5, h22_5, hbb_5, hbl_5, hb3_5⟩ hF5 gx (by intro p hp; omega) (by first | assumption | omega) (Nat.lt_succ_self _))
set_option maxRecDepth 100000 in
set_option maxHeartbeats 4000000 in
theorem c_X8_then_ate {X : jX} (hs : X.1.stackTraces = false) {d : Nat} (hd : 2 ≤ d) {n : Nat} {mv rw nx : Nat → Nat} {b : Nat} {bt : List Int32} {kn en dn rf kk th : Int32} {w : List jC} (hR : RM n mv rw nx b bt kn en dn rf kk th w) (hn1 : 2 ≤ n) (hn2 : n ≤ 7) (gm : ∀ i, mv i < 7) (gr : ∀ i, rw i < 7) (gx : ∀ i, nx i < 7) (a : Int32) (c : Int32) (e : Int32) (hy0 : PM n mv) (hy1 : KB n kn bt) {kc ks : Nat} : jMet X mX8_then d kc ks [.ref 19, .int a, .int c, .int e] w (pJ (fun v w' => ∃ (mv' : Nat → Nat), ∃ (nx' : Nat → Nat), ∃ (kn' : Int32), ∃ (dn' : Int32), ∃ (th' : Int32), RM n mv' rw nx' b bt kn' en dn' rf kk th' w' ∧ FR b b w w' ∧ (∀ i, mv' i < 7) ∧ (∀ i, nx' i < 7) ∧ PM n mv' ∧ KB n kn' bt ∧ ((th' = nI 1 ∧ ¬ (isN a 6 ∧ isN c 6 ∧ isN e 6) ∧ mv' = mv ∧ kn' = kn ∧ dn' = dn) ∨ (th' = nI 0 ∧ (∃ a1 b1 c1 : Nat, a = nI a1 ∧ c = nI b1 ∧ e = nI c1 ∧ a1 < 6 ∧ b1 < 6 ∧ c1 < 6 ∧ ACT n mv c1 (fun p => mv (b1 * 7 + mv (a1 * 7 + p))) mv' ∧ v = nI (nuF (fun p => mv (b1 * 7 + mv (a1 * 7 + p))) 0 n n)) ∧ kn' = (-1) ∧ dn' = (dn + nI 1))))) := by
  refine jMet_of hs (by decide +kernel) (Nat.le_of_ble_eq_true rfl) (L := [some (.ref 19), some (.int a), some (.int c), some (.int e), none]) rfl ?_
  have hdm : 1 ≤ d - 1 := by omega
  have hdp : d - 1 + 1 ≤ d := by omega
  have hfc := fc_7 hn2
  have hfp := fc_pos n
  obtain ⟨h19, h20, h21, h22, hbb, hbl, hb3⟩ := hR
  have hF : FR b b w w := FR.rf
  refine J_aload_n (pc := 0) dX8_then_0 rfl rfl rfl ?_
  refine J_iload_n (pc := 1) dX8_then_1 rfl rfl ?_
  refine J_callS0 (pc := 2) (M := mX8_then) (as := [.int a]) dX8_then_2 fw_X8_isCell fl_X8_108 fs_X8_isCell rfl (c_X8_isCell hs (d := d - 1) (Nat.le_trans (by decide) hdm) (w := w) a (kc := 0) (ks := 0)) hdp (st := [.ref 19]) (Nat.le_of_ble_eq_true rfl) rfl (kr_P fun v1 hv1 => ?_) kx_I
  rcases hv1 with ⟨rfl, hk1_0⟩ | ⟨q1, rfl, hk1_0, rfl⟩
  · refine J_if_eqN (pc := 5) (tgt := 22) dX8_then_5 (by decide) (by decide) (fun _ => ?_) (fun h => absurd h (by decide))
    refine J_iconst (pc := 22) (v := nI 1) dX8_then_22 (by decide) ?_
    refine J_goto (pc := 23) (tgt := 27) dX8_then_23 (by decide) ?_
    refine J_callV0 (pc := 27) (M := mX8_then) (as := [.int (nI 1)]) dX8_then_27 fw_X8_isThrown_ fl_X8_105 fm_X8_isThrown_ fe_X8_isThrown_ h19 (by decide) rfl rfl rfl (c_X8_isThrown_ hs (d := d - 1) (Nat.le_trans (by decide) hdm) (w := w) (n := n) (mv := mv) (rw := rw) (nx := nx) (b := b) (bt := bt) (kn := kn) (en := en) (dn := dn) (rf := rf) (kk := kk) (th := th) ⟨h19, h20, h21, h22, hbb, hbl, hb3⟩ hn1 hn2 gm gr gx 1 (by first | assumption | omega) (kc := 0) (ks := 0)) hdp (st := []) (Nat.le_of_ble_eq_true rfl) rfl (kr_I fun v2 w2 hv2 hw2 => ?_) kx_I
    obtain ⟨hR2, hFc2⟩ := hw2
    obtain ⟨h19_2, h20_2, h21_2, h22_2, hbb_2, hbl_2, hb3_2⟩ := hR2
    have hF2 := hF.tr hFc2
    subst hv2
    show J X mX8_then d kc ks 30 [some (.ref 19), some (.int a), some (.int c), some (.int e), none] [.int (nI 1)] w2 _
    refine J_if_eqN (pc := 30) (tgt := 35) dX8_then_30 (by decide) (by decide) (fun h => absurd h (by decide)) (fun _ => ?_)
    refine J_iconst (pc := 33) (v := nI 0) dX8_then_33 (by decide) ?_
    exact J_iret (pc := 34) dX8_then_34 rfl (⟨mv, nx, kn, dn, nI (tW 1 0), ⟨h19_2, h20_2, h21_2, h22_2, hbb_2, hbl_2, hb3_2⟩, hF2, gm, gx, (by first | assumption | exact PM_st hn2 (by assumption) (by assumption) (by assumption)), (by first | assumption | exact Or.inl rfl), (by first | exact Or.inl ⟨rfl, fun g => (by first | exact ne_isN (by assumption) g | exact ne_isN (by assumption) g.1 | exact ne_isN (by assumption) g.2 | exact ne_isN (by assumption) g.2.1 | exact ne_isN (by assumption) g.2.2 | exact ne_isN (by assumption) g.2.2.1 | exact ne_isN (by assumption) g.2.2.2), rfl, rfl, rfl⟩ | exact Or.inr (⟨rfl, ⟨_, _, _, rfl, rfl, rfl, by omega, by omega, by omega, ACT_of hn2 hgt (fun p hp => hv38_0 p (by omega)), congrArg nI (nu_congr (fun p hp => hv38_0 p (by omega)))⟩, rfl, rfl⟩))⟩)
  · refine J_if_eqN (pc := 5) (tgt := 22) dX8_then_5 (by decide) (by decide) (fun h => absurd h (by decide)) (fun _ => ?_)
    refine J_iload_n (pc := 8) dX8_then_8 rfl rfl ?_
    refine J_callS0 (pc := 9) (M := mX8_then) (as := [.int c]) dX8_then_9 fw_X8_isCell fl_X8_108 fs_X8_isCell rfl (c_X8_isCell hs (d := d - 1) (Nat.le_trans (by decide) hdm) (w := w) c (kc := 0) (ks := 0)) hdp (st := [.ref 19]) (Nat.le_of_ble_eq_true rfl) rfl (kr_P fun v3 hv3 => ?_) kx_I
    rcases hv3 with ⟨rfl, hk3_0⟩ | ⟨q3, rfl, hk3_0, rfl⟩
    · refine J_if_eqN (pc := 12) (tgt := 22) dX8_then_12 (by decide) (by decide) (fun _ => ?_) (fun h => absurd h (by decide))
      refine J_iconst (pc := 22) (v := nI 1) dX8_then_22 (by decide) ?_
      refine J_goto (pc := 23) (tgt := 27) dX8_then_23 (by decide) ?_
      refine J_callV0 (pc := 27) (M := mX8_then) (as := [.int (nI 1)]) dX8_then_27 fw_X8_isThrown_ fl_X8_105 fm_X8_isThrown_ fe_X8_isThrown_ h19 (by decide) rfl rfl rfl (c_X8_isThrown_ hs (d := d - 1) (Nat.le_trans (by decide) hdm) (w := w) (n := n) (mv := mv) (rw := rw) (nx := nx) (b := b) (bt := bt) (kn := kn) (en := en) (dn := dn) (rf := rf) (kk := kk) (th := th) ⟨h19, h20, h21, h22, hbb, hbl, hb3⟩ hn1 hn2 gm gr gx 1 (by first | assumption | omega) (kc := 0) (ks := 0)) hdp (st := []) (Nat.le_of_ble_eq_true rfl) rfl (kr_I fun v4 w4 hv4 hw4 => ?_) kx_I
      obtain ⟨hR4, hFc4⟩ := hw4
      obtain ⟨h19_4, h20_4, h21_4, h22_4, hbb_4, hbl_4, hb3_4⟩ := hR4
      have hF4 := hF.tr hFc4
      subst hv4
      show J X mX8_then d kc ks 30 [some (.ref 19), some (.int (nI q1)), some (.int c), some (.int e), none] [.int (nI 1)] w4 _
      refine J_if_eqN (pc := 30) (tgt := 35) dX8_then_30 (by decide) (by decide) (fun h => absurd h (by decide)) (fun _ => ?_)
      refine J_iconst (pc := 33) (v := nI 0) dX8_then_33 (by decide) ?_
      exact J_iret (pc := 34) dX8_then_34 rfl (⟨mv, nx, kn, dn, nI (tW 1 0), ⟨h19_4, h20_4, h21_4, h22_4, hbb_4, hbl_4, hb3_4⟩, hF4, gm, gx, (by first | assumption | exact PM_st hn2 (by assumption) (by assumption) (by assumption)), (by first | assumption | exact Or.inl rfl), (by first | exact Or.inl ⟨rfl, fun g => (by first | exact ne_isN (by assumption) g | exact ne_isN (by assumption) g.1 | exact ne_isN (by assumption) g.2 | exact ne_isN (by assumption) g.2.1 | exact ne_isN (by assumption) g.2.2 | exact ne_isN (by assumption) g.2.2.1 | exact ne_isN (by assumption) g.2.2.2), rfl, rfl, rfl⟩ | exact Or.inr (⟨rfl, ⟨_, _, _, rfl, rfl, rfl, by omega, by omega, by omega, ACT_of hn2 hgt (fun p hp => hv38_0 p (by omega)), congrArg nI (nu_congr (fun p hp => hv38_0 p (by omega)))⟩, rfl, rfl⟩))⟩)
    · refine J_if_eqN (pc := 12) (tgt := 22) dX8_then_12 (by decide) (by decide) (fun h => absurd h (by decide)) (fun _ => ?_)
      refine J_iload_n (pc := 15) dX8_then_15 rfl rfl ?_
      refine J_callS0 (pc := 16) (M := mX8_then) (as := [.int e]) dX8_then_16 fw_X8_isCell fl_X8_108 fs_X8_isCell rfl (c_X8_isCell hs (d := d - 1) (Nat.le_trans (by decide) hdm) (w := w) e (kc := 0) (ks := 0)) hdp (st := [.ref 19]) (Nat.le_of_ble_eq_true rfl) rfl (kr_P fun v5 hv5 => ?_) kx_I
      rcases hv5 with ⟨rfl, hk5_0⟩ | ⟨q5, rfl, hk5_0, rfl⟩
      · refine J_if_neN (pc := 19) (tgt := 26) dX8_then_19 (by decide) (by decide) (fun h => absurd h (by decide)) (fun _ => ?_)
        refine J_iconst (pc := 22) (v := nI 1) dX8_then_22 (by decide) ?_
        refine J_goto (pc := 23) (tgt := 27) dX8_then_23 (by decide) ?_
        refine J_callV0 (pc := 27) (M := mX8_then) (as := [.int (nI 1)]) dX8_then_27 fw_X8_isThrown_ fl_X8_105 fm_X8_isThrown_ fe_X8_isThrown_ h19 (by decide) rfl rfl rfl (c_X8_isThrown_ hs (d := d - 1) (Nat.le_trans (by decide) hdm) (w := w) (n := n) (mv := mv) (rw := rw) (nx := nx) (b := b) (bt := bt) (kn := kn) (en := en) (dn := dn) (rf := rf) (kk := kk) (th := th) ⟨h19, h20, h21, h22, hbb, hbl, hb3⟩ hn1 hn2 gm gr gx 1 (by first | assumption | omega) (kc := 0) (ks := 0)) hdp (st := []) (Nat.le_of_ble_eq_true rfl) rfl (kr_I fun v6 w6 hv6 hw6 => ?_) kx_I
        obtain ⟨hR6, hFc6⟩ := hw6
        obtain ⟨h19_6, h20_6, h21_6, h22_6, hbb_6, hbl_6, hb3_6⟩ := hR6
        have hF6 := hF.tr hFc6
        subst hv6
        show J X mX8_then d kc ks 30 [some (.ref 19), some (.int (nI q1)), some (.int (nI q3)), some (.int e), none] [.int (nI 1)] w6 _
        refine J_if_eqN (pc := 30) (tgt := 35) dX8_then_30 (by decide) (by decide) (fun h => absurd h (by decide)) (fun _ => ?_)
        refine J_iconst (pc := 33) (v := nI 0) dX8_then_33 (by decide) ?_
        exact J_iret (pc := 34) dX8_then_34 rfl (⟨mv, nx, kn, dn, nI (tW 1 0), ⟨h19_6, h20_6, h21_6, h22_6, hbb_6, hbl_6, hb3_6⟩, hF6, gm, gx, (by first | assumption | exact PM_st hn2 (by assumption) (by assumption) (by assumption)), (by first | assumption | exact Or.inl rfl), (by first | exact Or.inl ⟨rfl, fun g => (by first | exact ne_isN (by assumption) g | exact ne_isN (by assumption) g.1 | exact ne_isN (by assumption) g.2 | exact ne_isN (by assumption) g.2.1 | exact ne_isN (by assumption) g.2.2 | exact ne_isN (by assumption) g.2.2.1 | exact ne_isN (by assumption) g.2.2.2), rfl, rfl, rfl⟩ | exact Or.inr (⟨rfl, ⟨_, _, _, rfl, rfl, rfl, by omega, by omega, by omega, ACT_of hn2 hgt (fun p hp => hv38_0 p (by omega)), congrArg nI (nu_congr (fun p hp => hv38_0 p (by omega)))⟩, rfl, rfl⟩))⟩)
      · refine J_if_neN (pc := 19) (tgt := 26) dX8_then_19 (by decide) (by decide) (fun _ => ?_) (fun h => absurd h (by decide))
        refine J_iconst (pc := 26) (v := nI 0) dX8_then_26 (by decide) ?_
        refine J_callV0 (pc := 27) (M := mX8_then) (as := [.int (nI 0)]) dX8_then_27 fw_X8_isThrown_ fl_X8_105 fm_X8_isThrown_ fe_X8_isThrown_ h19 (by decide) rfl rfl rfl (c_X8_isThrown_ hs (d := d - 1) (Nat.le_trans (by decide) hdm) (w := w) (n := n) (mv := mv) (rw := rw) (nx := nx) (b := b) (bt := bt) (kn := kn) (en := en) (dn := dn) (rf := rf) (kk := kk) (th := th) ⟨h19, h20, h21, h22, hbb, hbl, hb3⟩ hn1 hn2 gm gr gx 0 (by first | assumption | omega) (kc := 0) (ks := 0)) hdp (st := []) (Nat.le_of_ble_eq_true rfl) rfl (kr_I fun v7 w7 hv7 hw7 => ?_) kx_I
        obtain ⟨hR7, hFc7⟩ := hw7
        obtain ⟨h19_7, h20_7, h21_7, h22_7, hbb_7, hbl_7, hb3_7⟩ := hR7
        have hF7 := hF.tr hFc7
        subst hv7
        show J X mX8_then d kc ks 30 [some (.ref 19), some (.int (nI q1)), some (.int (nI q3)), some (.int (nI q5)), none] [.int (nI 0)] w7 _
        refine J_if_eqN (pc := 30) (tgt := 35) dX8_then_30 (by decide) (by decide) (fun _ => ?_) (fun h => absurd h (by decide))
        refine J_iconst (pc := 35) (v := nI 0) dX8_then_35 (by decide) ?_
        refine J_istore (pc := 36) dX8_then_36 (by decide) rfl ?_
        show J X mX8_then d kc ks 38 [some (.ref 19), some (.int (nI q1)), some (.int (nI q3)), some (.int (nI q5)), some (.int (nI 0))] [] w7 _
        have lp38_8 : ∀ (fuel : Nat) (w9 : List jC) (nx_38 : Nat → Nat) (c4 : Nat), (RM n mv rw nx_38 b bt kn en dn rf kk (nI (tW 0 0)) w9) → (FR b b w w9) → (∀ i, nx_38 i < 7) → (∀ p, p < c4 → nx_38 p = mv (q3 * 7 + mv (q1 * 7 + p))) → (c4 ≤ n) → (n - c4 < fuel) → J X mX8_then d kc ks 38 [some (.ref 19), some (.int (nI q1)), some (.int (nI q3)), some (.int (nI q5)), some (.int (nI c4))] [] w9 (pJ (fun v w' => ∃ (mv' : Nat → Nat), ∃ (nx' : Nat → Nat), ∃ (kn' : Int32), ∃ (dn' : Int32), ∃ (th' : Int32), RM n mv' rw nx' b bt kn' en dn' rf kk th' w' ∧ FR b b w w' ∧ (∀ i, mv' i < 7) ∧ (∀ i, nx' i < 7) ∧ PM n mv' ∧ KB n kn' bt ∧ ((th' = nI 1 ∧ ¬ (isN (nI q1) 6 ∧ isN (nI q3) 6 ∧ isN (nI q5) 6) ∧ mv' = mv ∧ kn' = kn ∧ dn' = dn) ∨ (th' = nI 0 ∧ (∃ a1 b1 c1 : Nat, (nI q1) = nI a1 ∧ (nI q3) = nI b1 ∧ (nI q5) = nI c1 ∧ a1 < 6 ∧ b1 < 6 ∧ c1 < 6 ∧ ACT n mv c1 (fun p => mv (b1 * 7 + mv (a1 * 7 + p))) mv' ∧ v = nI (nuF (fun p => mv (b1 * 7 + mv (a1 * 7 + p))) 0 n n)) ∧ kn' = (-1) ∧ dn' = (dn + nI 1))))) := by
          intro fuellp38_8
          induction fuellp38_8 with
          | zero => intros; omega
          | succ fuellp38_8 ihlp38_8 =>
            intro w9 nx_38 c4 hR10 hF11 gx12 hv38_0 hv38_1 hf13
            obtain ⟨h19_14, h20_14, h21_14, h22_14, hb_14, hbl_14, hb3_14⟩ := hR10
            refine J_iload (pc := 38) dX8_then_38 rfl ?_
            refine J_aload_n (pc := 40) dX8_then_40 rfl rfl rfl ?_
            refine J_get (pc := 41) (k := 0) dX8_then_41 kC9 (by decide) ff_X8_7 h19_14 rfl ?_
            refine J_icmp_geN (pc := 44) (tgt := 72) dX8_then_44 (by decide) (by omega) (by omega) (fun ht15 => ?_) (fun hf16 => ?_)
            · have hPx := (Pn.comp (hy0 q1 (by omega)) (hy0 q3 (by omega))).congr (g := nx_38) (fun p hp => hv38_0 p (by omega))
              refine J_aload_n (pc := 72) dX8_then_72 rfl rfl rfl ?_
              refine J_iload_n (pc := 73) dX8_then_73 rfl rfl ?_
              refine J_aload_n (pc := 74) dX8_then_74 rfl rfl rfl ?_
              refine J_get (pc := 75) (k := 3) dX8_then_75 kC9 (by decide) ff_X8_20 h19_14 rfl ?_
              refine J_callV0 (pc := 78) (M := mX8_then) (as := [.int (nI q5), .ref 22]) dX8_then_78 fw_X8_get fl_X8_111 fm_X8_get fe_X8_get h19_14 (by decide) rfl rfl rfl (c_X8_get_at22 hs (d := d - 1) (Nat.le_trans (by decide) hdm) (w := w9) (n := n) (mv := mv) (rw := rw) (nx := nx_38) (b := b) (bt := bt) (kn := kn) (en := en) (dn := dn) (rf := rf) (kk := kk) (th := nI (tW 0 0)) ⟨h19_14, h20_14, h21_14, h22_14, hb_14, hbl_14, hb3_14⟩ hn1 hn2 gm gr gx12 q5 (by first | assumption | omega) (kc := 0) (ks := 0)) hdp (st := []) (Nat.le_of_ble_eq_true rfl) rfl (kr_I fun v17 w17 hv17 hw17 => ?_) kx_I
              obtain ⟨mv17, hR17, hFc17, hgmv17, hp17_0⟩ := hw17
              obtain ⟨h19_17, h20_17, h21_17, h22_17, hbb_17, hbl_17, hb3_17⟩ := hR17
              have hF17 := hF11.tr hFc17
              subst hv17
              have hgt := hp17_0
              exact J_iret (pc := 81) dX8_then_81 rfl (⟨mv17, nx_38, (-1), (dn + nI 1), nI (tW 0 0), ⟨h19_17, h20_17, h21_17, h22_17, hbb_17, hbl_17, hb3_17⟩, hF17, hgmv17, gx12, (by first | assumption | exact PM_st hn2 (by assumption) (by assumption) (by assumption)), (by first | assumption | exact Or.inl rfl), (by first | exact Or.inl ⟨rfl, fun g => (by first | exact ne_isN (by assumption) g | exact ne_isN (by assumption) g.1 | exact ne_isN (by assumption) g.2 | exact ne_isN (by assumption) g.2.1 | exact ne_isN (by assumption) g.2.2 | exact ne_isN (by assumption) g.2.2.1 | exact ne_isN (by assumption) g.2.2.2), rfl, rfl, rfl⟩ | exact Or.inr (⟨rfl, ⟨_, _, _, rfl, rfl, rfl, by omega, by omega, by omega, ACT_of hn2 hgt (fun p hp => hv38_0 p (by omega)), congrArg nI (nu_congr (fun p hp => hv38_0 p (by omega)))⟩, rfl, rfl⟩))⟩)
            · refine J_aload_n (pc := 47) dX8_then_47 rfl rfl rfl ?_
              refine J_get (pc := 48) (k := 3) dX8_then_48 kC9 (by decide) ff_X8_20 h19_14 rfl ?_
              refine J_iload (pc := 51) dX8_then_51 rfl ?_
              refine J_aload_n (pc := 53) dX8_then_53 rfl rfl rfl ?_
              refine J_iload_n (pc := 54) dX8_then_54 rfl rfl ?_
              refine J_aload_n (pc := 55) dX8_then_55 rfl rfl rfl ?_
              refine J_iload_n (pc := 56) dX8_then_56 rfl rfl ?_
              refine J_iload (pc := 57) dX8_then_57 rfl ?_
              refine J_callV0 (pc := 59) (M := mX8_then) (as := [.int (nI q1), .int (nI c4)]) dX8_then_59 fw_X8_at fl_X8_82 fm_X8_at fe_X8_at h19_14 (by decide) rfl rfl rfl (c_X8_at hs (d := d - 1) (Nat.le_trans (by decide) hdm) (w := w9) (n := n) (mv := mv) (rw := rw) (nx := nx_38) (b := b) (bt := bt) (kn := kn) (en := en) (dn := dn) (rf := rf) (kk := kk) (th := nI (tW 0 0)) ⟨h19_14, h20_14, h21_14, h22_14, hb_14, hbl_14, hb3_14⟩ hn1 hn2 gm gr gx12 q1 c4 (by first | assumption | omega) (by first | assumption | omega) (kc := 0) (ks := 0)) hdp (st := [.int (nI q3), .ref 19, .int (nI c4), .ref 22]) (Nat.le_of_ble_eq_true rfl) rfl (kr_P fun v18 hv18 => ?_) kx_I
              subst hv18
              have hq19 := gm (q1 * 7 + c4)
              refine J_callV0 (pc := 62) (M := mX8_then) (as := [.int (nI q3), .int (nI (mv (q1 * 7 + c4)))]) dX8_then_62 fw_X8_at fl_X8_82 fm_X8_at fe_X8_at h19_14 (by decide) rfl rfl rfl (c_X8_at hs (d := d - 1) (Nat.le_trans (by decide) hdm) (w := w9) (n := n) (mv := mv) (rw := rw) (nx := nx_38) (b := b) (bt := bt) (kn := kn) (en := en) (dn := dn) (rf := rf) (kk := kk) (th := nI (tW 0 0)) ⟨h19_14, h20_14, h21_14, h22_14, hb_14, hbl_14, hb3_14⟩ hn1 hn2 gm gr gx12 q3 (mv (q1 * 7 + c4)) (by first | assumption | omega) (by first | assumption | omega) (kc := 0) (ks := 0)) hdp (st := [.int (nI c4), .ref 22]) (Nat.le_of_ble_eq_true rfl) rfl (kr_P fun v20 hv20 => ?_) kx_I
              subst hv20
              have hq21 := gm (q3 * 7 + (mv (q1 * 7 + c4)))
              refine J_iastF (pc := 65) dX8_then_65 h22_14 (by omega) (by decide) (fun w22 hln22 hc22 hne22 => ?_)
              have hg22 : ∀ i, (up nx_38 c4 (mv (q3 * 7 + (mv (q1 * 7 + c4))))) i < 7 := up_b gx12 (by omega)
              have h19_22 := (hne22 19 (by decide)).trans h19_14
              have h20_22 := (hne22 20 (by decide)).trans h20_14
              have h21_22 := (hne22 21 (by decide)).trans h21_14
              have hb_22 := (hne22 _ (Nat.ne_of_gt (Nat.lt_of_lt_of_le (by decide) hb3_14))).trans hb_14
              have hF22 := hF11.st hln22 hne22 (Or.inl (by decide))
              refine J_iincN (pc := 66) (b := 1) dX8_then_66 rfl (by decide) (by decide) rfl ?_
              show J X mX8_then d kc ks 69 [some (.ref 19), some (.int (nI q1)), some (.int (nI q3)), some (.int (nI q5)), some (.int (nI (c4 + 1)))] [] w22 _
              refine J_goto (pc := 69) (tgt := 38) dX8_then_69 (by decide) ?_
              exact J_sub (L' := [some (.ref 19), some (.int (nI q1)), some (.int (nI q3)), some (.int (nI q5)), some (.int (nI (c4 + 1)))]) ⟨rfl, ⟨rfl, ⟨rfl, ⟨rfl, ⟨rfl, trivial⟩⟩⟩⟩⟩ (ihlp38_8 w22 (up nx_38 c4 (mv (q3 * 7 + (mv (q1 * 7 + c4))))) (c4 + 1) ⟨h19_22, h20_22, h21_22, hc22, hb_22, hbl_14, hb3_14⟩ hF22 hg22 (by intro p hp; by_cases e : p = c4; (subst e; exact up_s _ _ _); (rw [up_n e]; exact hv38_0 p (by omega))) (by first | assumption | omega) (by omega))
        exact J_sub (L' := [some (.ref 19), some (.int (nI q1)), some (.int (nI q3)), some (.int (nI q5)), some (.int (nI 0))]) ⟨rfl, ⟨rfl, ⟨rfl, ⟨rfl, ⟨rfl, trivial⟩⟩⟩⟩⟩ (lp38_8 _ w7 nx 0 ⟨h19_7, h20_7, h21_7, h22_7, hbb_7, hbl_7, hb3_7⟩ hF7 gx (by intro p hp; omega) (by first | assumption | omega) (Nat.lt_succ_self _))
set_option maxRecDepth 100000 in
set_option maxHeartbeats 4000000 in
theorem c_X8_undo_ate {X : jX} (hs : X.1.stackTraces = false) {d : Nat} (hd : 2 ≤ d) {n : Nat} {mv rw nx : Nat → Nat} {b : Nat} {bt : List Int32} {kn en dn rf kk th : Int32} {w : List jC} (hR : RM n mv rw nx b bt kn en dn rf kk th w) (hn1 : 2 ≤ n) (hn2 : n ≤ 7) (gm : ∀ i, mv i < 7) (gr : ∀ i, rw i < 7) (gx : ∀ i, nx i < 7) (a : Int32) (c : Int32) (hy0 : PM n mv) (hy1 : KB n kn bt) {kc ks : Nat} : jMet X mX8_undo d kc ks [.ref 19, .int a, .int c] w (pJ (fun v w' => ∃ (mv' : Nat → Nat), ∃ (nx' : Nat → Nat), ∃ (kn' : Int32), ∃ (dn' : Int32), ∃ (th' : Int32), RM n mv' rw nx' b bt kn' en dn' rf kk th' w' ∧ FR b b w w' ∧ (∀ i, mv' i < 7) ∧ (∀ i, nx' i < 7) ∧ PM n mv' ∧ KB n kn' bt ∧ ((th' = nI 1 ∧ ¬ (isN a 6 ∧ isN c 6) ∧ mv' = mv ∧ kn' = kn ∧ dn' = dn) ∨ (th' = nI 0 ∧ (∃ (a1 b1 : Nat) (f : Nat → Nat), a = nI a1 ∧ c = nI b1 ∧ a1 < 6 ∧ b1 < 6 ∧ (∀ p, p < n → f (mv (a1 * 7 + p)) = p) ∧ ACT n mv b1 f mv' ∧ v = nI (nuF f 0 n n)) ∧ kn' = (-1) ∧ dn' = (dn + nI 1))))) := by
  refine jMet_of hs (by decide +kernel) (Nat.le_of_ble_eq_true rfl) (L := [some (.ref 19), some (.int a), some (.int c), none]) rfl ?_
  have hdm : 1 ≤ d - 1 := by omega
  have hdp : d - 1 + 1 ≤ d := by omega
  have hfc := fc_7 hn2
  have hfp := fc_pos n
  obtain ⟨h19, h20, h21, h22, hbb, hbl, hb3⟩ := hR
  have hF : FR b b w w := FR.rf
  refine J_aload_n (pc := 0) dX8_undo_0 rfl rfl rfl ?_
  refine J_iload_n (pc := 1) dX8_undo_1 rfl rfl ?_
  refine J_callS0 (pc := 2) (M := mX8_undo) (as := [.int a]) dX8_undo_2 fw_X8_isCell fl_X8_108 fs_X8_isCell rfl (c_X8_isCell hs (d := d - 1) (Nat.le_trans (by decide) hdm) (w := w) a (kc := 0) (ks := 0)) hdp (st := [.ref 19]) (Nat.le_of_ble_eq_true rfl) rfl (kr_P fun v1 hv1 => ?_) kx_I
  rcases hv1 with ⟨rfl, hk1_0⟩ | ⟨q1, rfl, hk1_0, rfl⟩
  · refine J_if_eqN (pc := 5) (tgt := 15) dX8_undo_5 (by decide) (by decide) (fun _ => ?_) (fun h => absurd h (by decide))
    refine J_iconst (pc := 15) (v := nI 1) dX8_undo_15 (by decide) ?_
    refine J_goto (pc := 16) (tgt := 20) dX8_undo_16 (by decide) ?_
    refine J_callV0 (pc := 20) (M := mX8_undo) (as := [.int (nI 1)]) dX8_undo_20 fw_X8_isThrown_ fl_X8_105 fm_X8_isThrown_ fe_X8_isThrown_ h19 (by decide) rfl rfl rfl (c_X8_isThrown_ hs (d := d - 1) (Nat.le_trans (by decide) hdm) (w := w) (n := n) (mv := mv) (rw := rw) (nx := nx) (b := b) (bt := bt) (kn := kn) (en := en) (dn := dn) (rf := rf) (kk := kk) (th := th) ⟨h19, h20, h21, h22, hbb, hbl, hb3⟩ hn1 hn2 gm gr gx 1 (by first | assumption | omega) (kc := 0) (ks := 0)) hdp (st := []) (Nat.le_of_ble_eq_true rfl) rfl (kr_I fun v2 w2 hv2 hw2 => ?_) kx_I
    obtain ⟨hR2, hFc2⟩ := hw2
    obtain ⟨h19_2, h20_2, h21_2, h22_2, hbb_2, hbl_2, hb3_2⟩ := hR2
    have hF2 := hF.tr hFc2
    subst hv2
    show J X mX8_undo d kc ks 23 [some (.ref 19), some (.int a), some (.int c), none] [.int (nI 1)] w2 _
    refine J_if_eqN (pc := 23) (tgt := 28) dX8_undo_23 (by decide) (by decide) (fun h => absurd h (by decide)) (fun _ => ?_)
    refine J_iconst (pc := 26) (v := nI 0) dX8_undo_26 (by decide) ?_
    exact J_iret (pc := 27) dX8_undo_27 rfl (⟨mv, nx, kn, dn, nI (tW 1 0), ⟨h19_2, h20_2, h21_2, h22_2, hbb_2, hbl_2, hb3_2⟩, hF2, gm, gx, (by first | assumption | exact PM_st hn2 (by assumption) (by assumption) (by assumption)), (by first | assumption | exact Or.inl rfl), (by first | exact Or.inl ⟨rfl, fun g => (by first | exact ne_isN (by assumption) g | exact ne_isN (by assumption) g.1 | exact ne_isN (by assumption) g.2 | exact ne_isN (by assumption) g.2.1 | exact ne_isN (by assumption) g.2.2 | exact ne_isN (by assumption) g.2.2.1 | exact ne_isN (by assumption) g.2.2.2), rfl, rfl, rfl⟩ | exact Or.inr (⟨rfl, ⟨_, _, _, rfl, rfl, by omega, by omega, fun p hp => hv30_0 p (by omega), ACT_of hn2 hgt (fun p hp => rfl), rfl⟩, rfl, rfl⟩))⟩)
  · refine J_if_eqN (pc := 5) (tgt := 15) dX8_undo_5 (by decide) (by decide) (fun h => absurd h (by decide)) (fun _ => ?_)
    refine J_iload_n (pc := 8) dX8_undo_8 rfl rfl ?_
    refine J_callS0 (pc := 9) (M := mX8_undo) (as := [.int c]) dX8_undo_9 fw_X8_isCell fl_X8_108 fs_X8_isCell rfl (c_X8_isCell hs (d := d - 1) (Nat.le_trans (by decide) hdm) (w := w) c (kc := 0) (ks := 0)) hdp (st := [.ref 19]) (Nat.le_of_ble_eq_true rfl) rfl (kr_P fun v3 hv3 => ?_) kx_I
    rcases hv3 with ⟨rfl, hk3_0⟩ | ⟨q3, rfl, hk3_0, rfl⟩
    · refine J_if_neN (pc := 12) (tgt := 19) dX8_undo_12 (by decide) (by decide) (fun h => absurd h (by decide)) (fun _ => ?_)
      refine J_iconst (pc := 15) (v := nI 1) dX8_undo_15 (by decide) ?_
      refine J_goto (pc := 16) (tgt := 20) dX8_undo_16 (by decide) ?_
      refine J_callV0 (pc := 20) (M := mX8_undo) (as := [.int (nI 1)]) dX8_undo_20 fw_X8_isThrown_ fl_X8_105 fm_X8_isThrown_ fe_X8_isThrown_ h19 (by decide) rfl rfl rfl (c_X8_isThrown_ hs (d := d - 1) (Nat.le_trans (by decide) hdm) (w := w) (n := n) (mv := mv) (rw := rw) (nx := nx) (b := b) (bt := bt) (kn := kn) (en := en) (dn := dn) (rf := rf) (kk := kk) (th := th) ⟨h19, h20, h21, h22, hbb, hbl, hb3⟩ hn1 hn2 gm gr gx 1 (by first | assumption | omega) (kc := 0) (ks := 0)) hdp (st := []) (Nat.le_of_ble_eq_true rfl) rfl (kr_I fun v4 w4 hv4 hw4 => ?_) kx_I
      obtain ⟨hR4, hFc4⟩ := hw4
      obtain ⟨h19_4, h20_4, h21_4, h22_4, hbb_4, hbl_4, hb3_4⟩ := hR4
      have hF4 := hF.tr hFc4
      subst hv4
      show J X mX8_undo d kc ks 23 [some (.ref 19), some (.int (nI q1)), some (.int c), none] [.int (nI 1)] w4 _
      refine J_if_eqN (pc := 23) (tgt := 28) dX8_undo_23 (by decide) (by decide) (fun h => absurd h (by decide)) (fun _ => ?_)
      refine J_iconst (pc := 26) (v := nI 0) dX8_undo_26 (by decide) ?_
      exact J_iret (pc := 27) dX8_undo_27 rfl (⟨mv, nx, kn, dn, nI (tW 1 0), ⟨h19_4, h20_4, h21_4, h22_4, hbb_4, hbl_4, hb3_4⟩, hF4, gm, gx, (by first | assumption | exact PM_st hn2 (by assumption) (by assumption) (by assumption)), (by first | assumption | exact Or.inl rfl), (by first | exact Or.inl ⟨rfl, fun g => (by first | exact ne_isN (by assumption) g | exact ne_isN (by assumption) g.1 | exact ne_isN (by assumption) g.2 | exact ne_isN (by assumption) g.2.1 | exact ne_isN (by assumption) g.2.2 | exact ne_isN (by assumption) g.2.2.1 | exact ne_isN (by assumption) g.2.2.2), rfl, rfl, rfl⟩ | exact Or.inr (⟨rfl, ⟨_, _, _, rfl, rfl, by omega, by omega, fun p hp => hv30_0 p (by omega), ACT_of hn2 hgt (fun p hp => rfl), rfl⟩, rfl, rfl⟩))⟩)
    · refine J_if_neN (pc := 12) (tgt := 19) dX8_undo_12 (by decide) (by decide) (fun _ => ?_) (fun h => absurd h (by decide))
      refine J_iconst (pc := 19) (v := nI 0) dX8_undo_19 (by decide) ?_
      refine J_callV0 (pc := 20) (M := mX8_undo) (as := [.int (nI 0)]) dX8_undo_20 fw_X8_isThrown_ fl_X8_105 fm_X8_isThrown_ fe_X8_isThrown_ h19 (by decide) rfl rfl rfl (c_X8_isThrown_ hs (d := d - 1) (Nat.le_trans (by decide) hdm) (w := w) (n := n) (mv := mv) (rw := rw) (nx := nx) (b := b) (bt := bt) (kn := kn) (en := en) (dn := dn) (rf := rf) (kk := kk) (th := th) ⟨h19, h20, h21, h22, hbb, hbl, hb3⟩ hn1 hn2 gm gr gx 0 (by first | assumption | omega) (kc := 0) (ks := 0)) hdp (st := []) (Nat.le_of_ble_eq_true rfl) rfl (kr_I fun v5 w5 hv5 hw5 => ?_) kx_I
      obtain ⟨hR5, hFc5⟩ := hw5
      obtain ⟨h19_5, h20_5, h21_5, h22_5, hbb_5, hbl_5, hb3_5⟩ := hR5
      have hF5 := hF.tr hFc5
      subst hv5
      show J X mX8_undo d kc ks 23 [some (.ref 19), some (.int (nI q1)), some (.int (nI q3)), none] [.int (nI 0)] w5 _
      refine J_if_eqN (pc := 23) (tgt := 28) dX8_undo_23 (by decide) (by decide) (fun _ => ?_) (fun h => absurd h (by decide))
      refine J_iconst (pc := 28) (v := nI 0) dX8_undo_28 (by decide) ?_
      refine J_istore_n (pc := 29) dX8_undo_29 rfl (by decide) rfl ?_
      show J X mX8_undo d kc ks 30 [some (.ref 19), some (.int (nI q1)), some (.int (nI q3)), some (.int (nI 0))] [] w5 _
      have lp30_6 : ∀ (fuel : Nat) (w7 : List jC) (nx_30 : Nat → Nat) (c3 : Nat), (RM n mv rw nx_30 b bt kn en dn rf kk (nI (tW 0 0)) w7) → (FR b b w w7) → (∀ i, nx_30 i < 7) → (∀ p, p < c3 → nx_30 (mv (q1 * 7 + p)) = p) → (c3 ≤ n) → (n - c3 < fuel) → J X mX8_undo d kc ks 30 [some (.ref 19), some (.int (nI q1)), some (.int (nI q3)), some (.int (nI c3))] [] w7 (pJ (fun v w' => ∃ (mv' : Nat → Nat), ∃ (nx' : Nat → Nat), ∃ (kn' : Int32), ∃ (dn' : Int32), ∃ (th' : Int32), RM n mv' rw nx' b bt kn' en dn' rf kk th' w' ∧ FR b b w w' ∧ (∀ i, mv' i < 7) ∧ (∀ i, nx' i < 7) ∧ PM n mv' ∧ KB n kn' bt ∧ ((th' = nI 1 ∧ ¬ (isN (nI q1) 6 ∧ isN (nI q3) 6) ∧ mv' = mv ∧ kn' = kn ∧ dn' = dn) ∨ (th' = nI 0 ∧ (∃ (a1 b1 : Nat) (f : Nat → Nat), (nI q1) = nI a1 ∧ (nI q3) = nI b1 ∧ a1 < 6 ∧ b1 < 6 ∧ (∀ p, p < n → f (mv (a1 * 7 + p)) = p) ∧ ACT n mv b1 f mv' ∧ v = nI (nuF f 0 n n)) ∧ kn' = (-1) ∧ dn' = (dn + nI 1))))) := by
        intro fuellp30_6
        induction fuellp30_6 with
        | zero => intros; omega
        | succ fuellp30_6 ihlp30_6 =>
          intro w7 nx_30 c3 hR8 hF9 gx10 hv30_0 hv30_1 hf11
          obtain ⟨h19_12, h20_12, h21_12, h22_12, hb_12, hbl_12, hb3_12⟩ := hR8
          refine J_iload_n (pc := 30) dX8_undo_30 rfl rfl ?_
          refine J_aload_n (pc := 31) dX8_undo_31 rfl rfl rfl ?_
          refine J_get (pc := 32) (k := 0) dX8_undo_32 kC9 (by decide) ff_X8_7 h19_12 rfl ?_
          refine J_icmp_geN (pc := 35) (tgt := 56) dX8_undo_35 (by decide) (by omega) (by omega) (fun ht13 => ?_) (fun hf14 => ?_)
          · have hPx := Pn_inv (g := nx_30) (hy0 q1 (by omega)) (Pn_id n) (fun p hp => hv30_0 p (by omega))
            refine J_aload_n (pc := 56) dX8_undo_56 rfl rfl rfl ?_
            refine J_iload_n (pc := 57) dX8_undo_57 rfl rfl ?_
            refine J_aload_n (pc := 58) dX8_undo_58 rfl rfl rfl ?_
            refine J_get (pc := 59) (k := 3) dX8_undo_59 kC9 (by decide) ff_X8_20 h19_12 rfl ?_
            refine J_callV0 (pc := 62) (M := mX8_undo) (as := [.int (nI q3), .ref 22]) dX8_undo_62 fw_X8_get fl_X8_111 fm_X8_get fe_X8_get h19_12 (by decide) rfl rfl rfl (c_X8_get_at22 hs (d := d - 1) (Nat.le_trans (by decide) hdm) (w := w7) (n := n) (mv := mv) (rw := rw) (nx := nx_30) (b := b) (bt := bt) (kn := kn) (en := en) (dn := dn) (rf := rf) (kk := kk) (th := nI (tW 0 0)) ⟨h19_12, h20_12, h21_12, h22_12, hb_12, hbl_12, hb3_12⟩ hn1 hn2 gm gr gx10 q3 (by first | assumption | omega) (kc := 0) (ks := 0)) hdp (st := []) (Nat.le_of_ble_eq_true rfl) rfl (kr_I fun v15 w15 hv15 hw15 => ?_) kx_I
            obtain ⟨mv15, hR15, hFc15, hgmv15, hp15_0⟩ := hw15
            obtain ⟨h19_15, h20_15, h21_15, h22_15, hbb_15, hbl_15, hb3_15⟩ := hR15
            have hF15 := hF9.tr hFc15
            subst hv15
            have hgt := hp15_0
            exact J_iret (pc := 65) dX8_undo_65 rfl (⟨mv15, nx_30, (-1), (dn + nI 1), nI (tW 0 0), ⟨h19_15, h20_15, h21_15, h22_15, hbb_15, hbl_15, hb3_15⟩, hF15, hgmv15, gx10, (by first | assumption | exact PM_st hn2 (by assumption) (by assumption) (by assumption)), (by first | assumption | exact Or.inl rfl), (by first | exact Or.inl ⟨rfl, fun g => (by first | exact ne_isN (by assumption) g | exact ne_isN (by assumption) g.1 | exact ne_isN (by assumption) g.2 | exact ne_isN (by assumption) g.2.1 | exact ne_isN (by assumption) g.2.2 | exact ne_isN (by assumption) g.2.2.1 | exact ne_isN (by assumption) g.2.2.2), rfl, rfl, rfl⟩ | exact Or.inr (⟨rfl, ⟨_, _, _, rfl, rfl, by omega, by omega, fun p hp => hv30_0 p (by omega), ACT_of hn2 hgt (fun p hp => rfl), rfl⟩, rfl, rfl⟩))⟩)
          · refine J_aload_n (pc := 38) dX8_undo_38 rfl rfl rfl ?_
            refine J_get (pc := 39) (k := 3) dX8_undo_39 kC9 (by decide) ff_X8_20 h19_12 rfl ?_
            refine J_aload_n (pc := 42) dX8_undo_42 rfl rfl rfl ?_
            refine J_iload_n (pc := 43) dX8_undo_43 rfl rfl ?_
            refine J_iload_n (pc := 44) dX8_undo_44 rfl rfl ?_
            refine J_callV0 (pc := 45) (M := mX8_undo) (as := [.int (nI q1), .int (nI c3)]) dX8_undo_45 fw_X8_at fl_X8_82 fm_X8_at fe_X8_at h19_12 (by decide) rfl rfl rfl (c_X8_at hs (d := d - 1) (Nat.le_trans (by decide) hdm) (w := w7) (n := n) (mv := mv) (rw := rw) (nx := nx_30) (b := b) (bt := bt) (kn := kn) (en := en) (dn := dn) (rf := rf) (kk := kk) (th := nI (tW 0 0)) ⟨h19_12, h20_12, h21_12, h22_12, hb_12, hbl_12, hb3_12⟩ hn1 hn2 gm gr gx10 q1 c3 (by first | assumption | omega) (by first | assumption | omega) (kc := 0) (ks := 0)) hdp (st := [.ref 22]) (Nat.le_of_ble_eq_true rfl) rfl (kr_P fun v16 hv16 => ?_) kx_I
            subst hv16
            have hq17 := gm (q1 * 7 + c3)
            refine J_iload_n (pc := 48) dX8_undo_48 rfl rfl ?_
            refine J_iastF (pc := 49) dX8_undo_49 h22_12 (by omega) (by decide) (fun w18 hln18 hc18 hne18 => ?_)
            have hg18 : ∀ i, (up nx_30 (mv (q1 * 7 + c3)) c3) i < 7 := up_b gx10 (by omega)
            have h19_18 := (hne18 19 (by decide)).trans h19_12
            have h20_18 := (hne18 20 (by decide)).trans h20_12
            have h21_18 := (hne18 21 (by decide)).trans h21_12
            have hb_18 := (hne18 _ (Nat.ne_of_gt (Nat.lt_of_lt_of_le (by decide) hb3_12))).trans hb_12
            have hF18 := hF9.st hln18 hne18 (Or.inl (by decide))
            refine J_iincN (pc := 50) (b := 1) dX8_undo_50 rfl (by decide) (by decide) rfl ?_
            show J X mX8_undo d kc ks 53 [some (.ref 19), some (.int (nI q1)), some (.int (nI q3)), some (.int (nI (c3 + 1)))] [] w18 _
            refine J_goto (pc := 53) (tgt := 30) dX8_undo_53 (by decide) ?_
            exact J_sub (L' := [some (.ref 19), some (.int (nI q1)), some (.int (nI q3)), some (.int (nI (c3 + 1)))]) ⟨rfl, ⟨rfl, ⟨rfl, ⟨rfl, trivial⟩⟩⟩⟩ (ihlp30_6 w18 (up nx_30 (mv (q1 * 7 + c3)) c3) (c3 + 1) ⟨h19_18, h20_18, h21_18, hc18, hb_18, hbl_12, hb3_12⟩ hF18 hg18 (by intro p hp; by_cases e : p = c3; (subst e; exact up_s _ _ _); (rw [up_n (fun q => e ((hy0 q1 (by omega)).2 p c3 (by omega) (by omega) q))]; exact hv30_0 p (by omega))) (by first | assumption | omega) (by omega))
      exact J_sub (L' := [some (.ref 19), some (.int (nI q1)), some (.int (nI q3)), some (.int (nI 0))]) ⟨rfl, ⟨rfl, ⟨rfl, ⟨rfl, trivial⟩⟩⟩⟩ (lp30_6 _ w5 nx 0 ⟨h19_5, h20_5, h21_5, h22_5, hbb_5, hbl_5, hb3_5⟩ hF5 gx (by intro p hp; omega) (by first | assumption | omega) (Nat.lt_succ_self _))
set_option maxRecDepth 100000 in
set_option maxHeartbeats 4000000 in
theorem c_X8_rename_ate {X : jX} (hs : X.1.stackTraces = false) {d : Nat} (hd : 2 ≤ d) {n : Nat} {mv rw nx : Nat → Nat} {b : Nat} {bt : List Int32} {kn en dn rf kk th : Int32} {w : List jC} (hR : RM n mv rw nx b bt kn en dn rf kk th w) (hn1 : 2 ≤ n) (hn2 : n ≤ 7) (gm : ∀ i, mv i < 7) (gr : ∀ i, rw i < 7) (gx : ∀ i, nx i < 7) (a : Int32) (c : Int32) (e : Int32) (hy0 : PM n mv) (hy1 : KB n kn bt) {kc ks : Nat} : jMet X mX8_rename d kc ks [.ref 19, .int a, .int c, .int e] w (pJ (fun v w' => ∃ (mv' : Nat → Nat), ∃ (nx' : Nat → Nat), ∃ (kn' : Int32), ∃ (dn' : Int32), ∃ (th' : Int32), RM n mv' rw nx' b bt kn' en dn' rf kk th' w' ∧ FR b b w w' ∧ (∀ i, mv' i < 7) ∧ (∀ i, nx' i < 7) ∧ PM n mv' ∧ KB n kn' bt ∧ ((th' = nI 1 ∧ ¬ (isN a 6 ∧ isN c 6 ∧ isN e 6) ∧ mv' = mv ∧ kn' = kn ∧ dn' = dn) ∨ (th' = nI 0 ∧ (∃ (a1 b1 c1 : Nat) (f : Nat → Nat), a = nI a1 ∧ c = nI b1 ∧ e = nI c1 ∧ a1 < 6 ∧ b1 < 6 ∧ c1 < 6 ∧ (∀ p, p < n → f (mv (b1 * 7 + p)) = mv (b1 * 7 + mv (a1 * 7 + p))) ∧ ACT n mv c1 f mv' ∧ v = nI (nuF f 0 n n)) ∧ kn' = (-1) ∧ dn' = (dn + nI 1))))) := by
  refine jMet_of hs (by decide +kernel) (Nat.le_of_ble_eq_true rfl) (L := [some (.ref 19), some (.int a), some (.int c), some (.int e), none]) rfl ?_
  have hdm : 1 ≤ d - 1 := by omega
  have hdp : d - 1 + 1 ≤ d := by omega
  have hfc := fc_7 hn2
  have hfp := fc_pos n
  obtain ⟨h19, h20, h21, h22, hbb, hbl, hb3⟩ := hR
  have hF : FR b b w w := FR.rf
  refine J_aload_n (pc := 0) dX8_rename_0 rfl rfl rfl ?_
  refine J_iload_n (pc := 1) dX8_rename_1 rfl rfl ?_
  refine J_callS0 (pc := 2) (M := mX8_rename) (as := [.int a]) dX8_rename_2 fw_X8_isCell fl_X8_108 fs_X8_isCell rfl (c_X8_isCell hs (d := d - 1) (Nat.le_trans (by decide) hdm) (w := w) a (kc := 0) (ks := 0)) hdp (st := [.ref 19]) (Nat.le_of_ble_eq_true rfl) rfl (kr_P fun v1 hv1 => ?_) kx_I
  rcases hv1 with ⟨rfl, hk1_0⟩ | ⟨q1, rfl, hk1_0, rfl⟩
  · refine J_if_eqN (pc := 5) (tgt := 22) dX8_rename_5 (by decide) (by decide) (fun _ => ?_) (fun h => absurd h (by decide))
    refine J_iconst (pc := 22) (v := nI 1) dX8_rename_22 (by decide) ?_
    refine J_goto (pc := 23) (tgt := 27) dX8_rename_23 (by decide) ?_
    refine J_callV0 (pc := 27) (M := mX8_rename) (as := [.int (nI 1)]) dX8_rename_27 fw_X8_isThrown_ fl_X8_105 fm_X8_isThrown_ fe_X8_isThrown_ h19 (by decide) rfl rfl rfl (c_X8_isThrown_ hs (d := d - 1) (Nat.le_trans (by decide) hdm) (w := w) (n := n) (mv := mv) (rw := rw) (nx := nx) (b := b) (bt := bt) (kn := kn) (en := en) (dn := dn) (rf := rf) (kk := kk) (th := th) ⟨h19, h20, h21, h22, hbb, hbl, hb3⟩ hn1 hn2 gm gr gx 1 (by first | assumption | omega) (kc := 0) (ks := 0)) hdp (st := []) (Nat.le_of_ble_eq_true rfl) rfl (kr_I fun v2 w2 hv2 hw2 => ?_) kx_I
    obtain ⟨hR2, hFc2⟩ := hw2
    obtain ⟨h19_2, h20_2, h21_2, h22_2, hbb_2, hbl_2, hb3_2⟩ := hR2
    have hF2 := hF.tr hFc2
    subst hv2
    show J X mX8_rename d kc ks 30 [some (.ref 19), some (.int a), some (.int c), some (.int e), none] [.int (nI 1)] w2 _
    refine J_if_eqN (pc := 30) (tgt := 35) dX8_rename_30 (by decide) (by decide) (fun h => absurd h (by decide)) (fun _ => ?_)
    refine J_iconst (pc := 33) (v := nI 0) dX8_rename_33 (by decide) ?_
    exact J_iret (pc := 34) dX8_rename_34 rfl (⟨mv, nx, kn, dn, nI (tW 1 0), ⟨h19_2, h20_2, h21_2, h22_2, hbb_2, hbl_2, hb3_2⟩, hF2, gm, gx, (by first | assumption | exact PM_st hn2 (by assumption) (by assumption) (by assumption)), (by first | assumption | exact Or.inl rfl), (by first | exact Or.inl ⟨rfl, fun g => (by first | exact ne_isN (by assumption) g | exact ne_isN (by assumption) g.1 | exact ne_isN (by assumption) g.2 | exact ne_isN (by assumption) g.2.1 | exact ne_isN (by assumption) g.2.2 | exact ne_isN (by assumption) g.2.2.1 | exact ne_isN (by assumption) g.2.2.2), rfl, rfl, rfl⟩ | exact Or.inr (⟨rfl, ⟨_, _, _, _, rfl, rfl, rfl, by omega, by omega, by omega, fun p hp => hv38_0 p (by omega), ACT_of hn2 hgt (fun p hp => rfl), rfl⟩, rfl, rfl⟩))⟩)
  · refine J_if_eqN (pc := 5) (tgt := 22) dX8_rename_5 (by decide) (by decide) (fun h => absurd h (by decide)) (fun _ => ?_)
    refine J_iload_n (pc := 8) dX8_rename_8 rfl rfl ?_
    refine J_callS0 (pc := 9) (M := mX8_rename) (as := [.int c]) dX8_rename_9 fw_X8_isCell fl_X8_108 fs_X8_isCell rfl (c_X8_isCell hs (d := d - 1) (Nat.le_trans (by decide) hdm) (w := w) c (kc := 0) (ks := 0)) hdp (st := [.ref 19]) (Nat.le_of_ble_eq_true rfl) rfl (kr_P fun v3 hv3 => ?_) kx_I
    rcases hv3 with ⟨rfl, hk3_0⟩ | ⟨q3, rfl, hk3_0, rfl⟩
    · refine J_if_eqN (pc := 12) (tgt := 22) dX8_rename_12 (by decide) (by decide) (fun _ => ?_) (fun h => absurd h (by decide))
      refine J_iconst (pc := 22) (v := nI 1) dX8_rename_22 (by decide) ?_
      refine J_goto (pc := 23) (tgt := 27) dX8_rename_23 (by decide) ?_
      refine J_callV0 (pc := 27) (M := mX8_rename) (as := [.int (nI 1)]) dX8_rename_27 fw_X8_isThrown_ fl_X8_105 fm_X8_isThrown_ fe_X8_isThrown_ h19 (by decide) rfl rfl rfl (c_X8_isThrown_ hs (d := d - 1) (Nat.le_trans (by decide) hdm) (w := w) (n := n) (mv := mv) (rw := rw) (nx := nx) (b := b) (bt := bt) (kn := kn) (en := en) (dn := dn) (rf := rf) (kk := kk) (th := th) ⟨h19, h20, h21, h22, hbb, hbl, hb3⟩ hn1 hn2 gm gr gx 1 (by first | assumption | omega) (kc := 0) (ks := 0)) hdp (st := []) (Nat.le_of_ble_eq_true rfl) rfl (kr_I fun v4 w4 hv4 hw4 => ?_) kx_I
      obtain ⟨hR4, hFc4⟩ := hw4
      obtain ⟨h19_4, h20_4, h21_4, h22_4, hbb_4, hbl_4, hb3_4⟩ := hR4
      have hF4 := hF.tr hFc4
      subst hv4
      show J X mX8_rename d kc ks 30 [some (.ref 19), some (.int (nI q1)), some (.int c), some (.int e), none] [.int (nI 1)] w4 _
      refine J_if_eqN (pc := 30) (tgt := 35) dX8_rename_30 (by decide) (by decide) (fun h => absurd h (by decide)) (fun _ => ?_)
      refine J_iconst (pc := 33) (v := nI 0) dX8_rename_33 (by decide) ?_
      exact J_iret (pc := 34) dX8_rename_34 rfl (⟨mv, nx, kn, dn, nI (tW 1 0), ⟨h19_4, h20_4, h21_4, h22_4, hbb_4, hbl_4, hb3_4⟩, hF4, gm, gx, (by first | assumption | exact PM_st hn2 (by assumption) (by assumption) (by assumption)), (by first | assumption | exact Or.inl rfl), (by first | exact Or.inl ⟨rfl, fun g => (by first | exact ne_isN (by assumption) g | exact ne_isN (by assumption) g.1 | exact ne_isN (by assumption) g.2 | exact ne_isN (by assumption) g.2.1 | exact ne_isN (by assumption) g.2.2 | exact ne_isN (by assumption) g.2.2.1 | exact ne_isN (by assumption) g.2.2.2), rfl, rfl, rfl⟩ | exact Or.inr (⟨rfl, ⟨_, _, _, _, rfl, rfl, rfl, by omega, by omega, by omega, fun p hp => hv38_0 p (by omega), ACT_of hn2 hgt (fun p hp => rfl), rfl⟩, rfl, rfl⟩))⟩)
    · refine J_if_eqN (pc := 12) (tgt := 22) dX8_rename_12 (by decide) (by decide) (fun h => absurd h (by decide)) (fun _ => ?_)
      refine J_iload_n (pc := 15) dX8_rename_15 rfl rfl ?_
      refine J_callS0 (pc := 16) (M := mX8_rename) (as := [.int e]) dX8_rename_16 fw_X8_isCell fl_X8_108 fs_X8_isCell rfl (c_X8_isCell hs (d := d - 1) (Nat.le_trans (by decide) hdm) (w := w) e (kc := 0) (ks := 0)) hdp (st := [.ref 19]) (Nat.le_of_ble_eq_true rfl) rfl (kr_P fun v5 hv5 => ?_) kx_I
      rcases hv5 with ⟨rfl, hk5_0⟩ | ⟨q5, rfl, hk5_0, rfl⟩
      · refine J_if_neN (pc := 19) (tgt := 26) dX8_rename_19 (by decide) (by decide) (fun h => absurd h (by decide)) (fun _ => ?_)
        refine J_iconst (pc := 22) (v := nI 1) dX8_rename_22 (by decide) ?_
        refine J_goto (pc := 23) (tgt := 27) dX8_rename_23 (by decide) ?_
        refine J_callV0 (pc := 27) (M := mX8_rename) (as := [.int (nI 1)]) dX8_rename_27 fw_X8_isThrown_ fl_X8_105 fm_X8_isThrown_ fe_X8_isThrown_ h19 (by decide) rfl rfl rfl (c_X8_isThrown_ hs (d := d - 1) (Nat.le_trans (by decide) hdm) (w := w) (n := n) (mv := mv) (rw := rw) (nx := nx) (b := b) (bt := bt) (kn := kn) (en := en) (dn := dn) (rf := rf) (kk := kk) (th := th) ⟨h19, h20, h21, h22, hbb, hbl, hb3⟩ hn1 hn2 gm gr gx 1 (by first | assumption | omega) (kc := 0) (ks := 0)) hdp (st := []) (Nat.le_of_ble_eq_true rfl) rfl (kr_I fun v6 w6 hv6 hw6 => ?_) kx_I
        obtain ⟨hR6, hFc6⟩ := hw6
        obtain ⟨h19_6, h20_6, h21_6, h22_6, hbb_6, hbl_6, hb3_6⟩ := hR6
        have hF6 := hF.tr hFc6
        subst hv6
        show J X mX8_rename d kc ks 30 [some (.ref 19), some (.int (nI q1)), some (.int (nI q3)), some (.int e), none] [.int (nI 1)] w6 _
        refine J_if_eqN (pc := 30) (tgt := 35) dX8_rename_30 (by decide) (by decide) (fun h => absurd h (by decide)) (fun _ => ?_)
        refine J_iconst (pc := 33) (v := nI 0) dX8_rename_33 (by decide) ?_
        exact J_iret (pc := 34) dX8_rename_34 rfl (⟨mv, nx, kn, dn, nI (tW 1 0), ⟨h19_6, h20_6, h21_6, h22_6, hbb_6, hbl_6, hb3_6⟩, hF6, gm, gx, (by first | assumption | exact PM_st hn2 (by assumption) (by assumption) (by assumption)), (by first | assumption | exact Or.inl rfl), (by first | exact Or.inl ⟨rfl, fun g => (by first | exact ne_isN (by assumption) g | exact ne_isN (by assumption) g.1 | exact ne_isN (by assumption) g.2 | exact ne_isN (by assumption) g.2.1 | exact ne_isN (by assumption) g.2.2 | exact ne_isN (by assumption) g.2.2.1 | exact ne_isN (by assumption) g.2.2.2), rfl, rfl, rfl⟩ | exact Or.inr (⟨rfl, ⟨_, _, _, _, rfl, rfl, rfl, by omega, by omega, by omega, fun p hp => hv38_0 p (by omega), ACT_of hn2 hgt (fun p hp => rfl), rfl⟩, rfl, rfl⟩))⟩)
      · refine J_if_neN (pc := 19) (tgt := 26) dX8_rename_19 (by decide) (by decide) (fun _ => ?_) (fun h => absurd h (by decide))
        refine J_iconst (pc := 26) (v := nI 0) dX8_rename_26 (by decide) ?_
        refine J_callV0 (pc := 27) (M := mX8_rename) (as := [.int (nI 0)]) dX8_rename_27 fw_X8_isThrown_ fl_X8_105 fm_X8_isThrown_ fe_X8_isThrown_ h19 (by decide) rfl rfl rfl (c_X8_isThrown_ hs (d := d - 1) (Nat.le_trans (by decide) hdm) (w := w) (n := n) (mv := mv) (rw := rw) (nx := nx) (b := b) (bt := bt) (kn := kn) (en := en) (dn := dn) (rf := rf) (kk := kk) (th := th) ⟨h19, h20, h21, h22, hbb, hbl, hb3⟩ hn1 hn2 gm gr gx 0 (by first | assumption | omega) (kc := 0) (ks := 0)) hdp (st := []) (Nat.le_of_ble_eq_true rfl) rfl (kr_I fun v7 w7 hv7 hw7 => ?_) kx_I
        obtain ⟨hR7, hFc7⟩ := hw7
        obtain ⟨h19_7, h20_7, h21_7, h22_7, hbb_7, hbl_7, hb3_7⟩ := hR7
        have hF7 := hF.tr hFc7
        subst hv7
        show J X mX8_rename d kc ks 30 [some (.ref 19), some (.int (nI q1)), some (.int (nI q3)), some (.int (nI q5)), none] [.int (nI 0)] w7 _
        refine J_if_eqN (pc := 30) (tgt := 35) dX8_rename_30 (by decide) (by decide) (fun _ => ?_) (fun h => absurd h (by decide))
        refine J_iconst (pc := 35) (v := nI 0) dX8_rename_35 (by decide) ?_
        refine J_istore (pc := 36) dX8_rename_36 (by decide) rfl ?_
        show J X mX8_rename d kc ks 38 [some (.ref 19), some (.int (nI q1)), some (.int (nI q3)), some (.int (nI q5)), some (.int (nI 0))] [] w7 _
        have lp38_8 : ∀ (fuel : Nat) (w9 : List jC) (nx_38 : Nat → Nat) (c4 : Nat), (RM n mv rw nx_38 b bt kn en dn rf kk (nI (tW 0 0)) w9) → (FR b b w w9) → (∀ i, nx_38 i < 7) → (∀ p, p < c4 → nx_38 (mv (q3 * 7 + p)) = mv (q3 * 7 + mv (q1 * 7 + p))) → (c4 ≤ n) → (n - c4 < fuel) → J X mX8_rename d kc ks 38 [some (.ref 19), some (.int (nI q1)), some (.int (nI q3)), some (.int (nI q5)), some (.int (nI c4))] [] w9 (pJ (fun v w' => ∃ (mv' : Nat → Nat), ∃ (nx' : Nat → Nat), ∃ (kn' : Int32), ∃ (dn' : Int32), ∃ (th' : Int32), RM n mv' rw nx' b bt kn' en dn' rf kk th' w' ∧ FR b b w w' ∧ (∀ i, mv' i < 7) ∧ (∀ i, nx' i < 7) ∧ PM n mv' ∧ KB n kn' bt ∧ ((th' = nI 1 ∧ ¬ (isN (nI q1) 6 ∧ isN (nI q3) 6 ∧ isN (nI q5) 6) ∧ mv' = mv ∧ kn' = kn ∧ dn' = dn) ∨ (th' = nI 0 ∧ (∃ (a1 b1 c1 : Nat) (f : Nat → Nat), (nI q1) = nI a1 ∧ (nI q3) = nI b1 ∧ (nI q5) = nI c1 ∧ a1 < 6 ∧ b1 < 6 ∧ c1 < 6 ∧ (∀ p, p < n → f (mv (b1 * 7 + p)) = mv (b1 * 7 + mv (a1 * 7 + p))) ∧ ACT n mv c1 f mv' ∧ v = nI (nuF f 0 n n)) ∧ kn' = (-1) ∧ dn' = (dn + nI 1))))) := by
          intro fuellp38_8
          induction fuellp38_8 with
          | zero => intros; omega
          | succ fuellp38_8 ihlp38_8 =>
            intro w9 nx_38 c4 hR10 hF11 gx12 hv38_0 hv38_1 hf13
            obtain ⟨h19_14, h20_14, h21_14, h22_14, hb_14, hbl_14, hb3_14⟩ := hR10
            refine J_iload (pc := 38) dX8_rename_38 rfl ?_
            refine J_aload_n (pc := 40) dX8_rename_40 rfl rfl rfl ?_
            refine J_get (pc := 41) (k := 0) dX8_rename_41 kC9 (by decide) ff_X8_7 h19_14 rfl ?_
            refine J_icmp_geN (pc := 44) (tgt := 77) dX8_rename_44 (by decide) (by omega) (by omega) (fun ht15 => ?_) (fun hf16 => ?_)
            · have hPx := Pn_inv (g := nx_38) (hy0 q3 (by omega)) (Pn.comp (hy0 q1 (by omega)) (hy0 q3 (by omega))) (fun p hp => hv38_0 p (by omega))
              refine J_aload_n (pc := 77) dX8_rename_77 rfl rfl rfl ?_
              refine J_iload_n (pc := 78) dX8_rename_78 rfl rfl ?_
              refine J_aload_n (pc := 79) dX8_rename_79 rfl rfl rfl ?_
              refine J_get (pc := 80) (k := 3) dX8_rename_80 kC9 (by decide) ff_X8_20 h19_14 rfl ?_
              refine J_callV0 (pc := 83) (M := mX8_rename) (as := [.int (nI q5), .ref 22]) dX8_rename_83 fw_X8_get fl_X8_111 fm_X8_get fe_X8_get h19_14 (by decide) rfl rfl rfl (c_X8_get_at22 hs (d := d - 1) (Nat.le_trans (by decide) hdm) (w := w9) (n := n) (mv := mv) (rw := rw) (nx := nx_38) (b := b) (bt := bt) (kn := kn) (en := en) (dn := dn) (rf := rf) (kk := kk) (th := nI (tW 0 0)) ⟨h19_14, h20_14, h21_14, h22_14, hb_14, hbl_14, hb3_14⟩ hn1 hn2 gm gr gx12 q5 (by first | assumption | omega) (kc := 0) (ks := 0)) hdp (st := []) (Nat.le_of_ble_eq_true rfl) rfl (kr_I fun v17 w17 hv17 hw17 => ?_) kx_I
              obtain ⟨mv17, hR17, hFc17, hgmv17, hp17_0⟩ := hw17
              obtain ⟨h19_17, h20_17, h21_17, h22_17, hbb_17, hbl_17, hb3_17⟩ := hR17
              have hF17 := hF11.tr hFc17
              subst hv17
              have hgt := hp17_0
              exact J_iret (pc := 86) dX8_rename_86 rfl (⟨mv17, nx_38, (-1), (dn + nI 1), nI (tW 0 0), ⟨h19_17, h20_17, h21_17, h22_17, hbb_17, hbl_17, hb3_17⟩, hF17, hgmv17, gx12, (by first | assumption | exact PM_st hn2 (by assumption) (by assumption) (by assumption)), (by first | assumption | exact Or.inl rfl), (by first | exact Or.inl ⟨rfl, fun g => (by first | exact ne_isN (by assumption) g | exact ne_isN (by assumption) g.1 | exact ne_isN (by assumption) g.2 | exact ne_isN (by assumption) g.2.1 | exact ne_isN (by assumption) g.2.2 | exact ne_isN (by assumption) g.2.2.1 | exact ne_isN (by assumption) g.2.2.2), rfl, rfl, rfl⟩ | exact Or.inr (⟨rfl, ⟨_, _, _, _, rfl, rfl, rfl, by omega, by omega, by omega, fun p hp => hv38_0 p (by omega), ACT_of hn2 hgt (fun p hp => rfl), rfl⟩, rfl, rfl⟩))⟩)
            · refine J_aload_n (pc := 47) dX8_rename_47 rfl rfl rfl ?_
              refine J_get (pc := 48) (k := 3) dX8_rename_48 kC9 (by decide) ff_X8_20 h19_14 rfl ?_
              refine J_aload_n (pc := 51) dX8_rename_51 rfl rfl rfl ?_
              refine J_iload_n (pc := 52) dX8_rename_52 rfl rfl ?_
              refine J_iload (pc := 53) dX8_rename_53 rfl ?_
              refine J_callV0 (pc := 55) (M := mX8_rename) (as := [.int (nI q3), .int (nI c4)]) dX8_rename_55 fw_X8_at fl_X8_82 fm_X8_at fe_X8_at h19_14 (by decide) rfl rfl rfl (c_X8_at hs (d := d - 1) (Nat.le_trans (by decide) hdm) (w := w9) (n := n) (mv := mv) (rw := rw) (nx := nx_38) (b := b) (bt := bt) (kn := kn) (en := en) (dn := dn) (rf := rf) (kk := kk) (th := nI (tW 0 0)) ⟨h19_14, h20_14, h21_14, h22_14, hb_14, hbl_14, hb3_14⟩ hn1 hn2 gm gr gx12 q3 c4 (by first | assumption | omega) (by first | assumption | omega) (kc := 0) (ks := 0)) hdp (st := [.ref 22]) (Nat.le_of_ble_eq_true rfl) rfl (kr_P fun v18 hv18 => ?_) kx_I
              subst hv18
              have hq19 := gm (q3 * 7 + c4)
              refine J_aload_n (pc := 58) dX8_rename_58 rfl rfl rfl ?_
              refine J_iload_n (pc := 59) dX8_rename_59 rfl rfl ?_
              refine J_aload_n (pc := 60) dX8_rename_60 rfl rfl rfl ?_
              refine J_iload_n (pc := 61) dX8_rename_61 rfl rfl ?_
              refine J_iload (pc := 62) dX8_rename_62 rfl ?_
              refine J_callV0 (pc := 64) (M := mX8_rename) (as := [.int (nI q1), .int (nI c4)]) dX8_rename_64 fw_X8_at fl_X8_82 fm_X8_at fe_X8_at h19_14 (by decide) rfl rfl rfl (c_X8_at hs (d := d - 1) (Nat.le_trans (by decide) hdm) (w := w9) (n := n) (mv := mv) (rw := rw) (nx := nx_38) (b := b) (bt := bt) (kn := kn) (en := en) (dn := dn) (rf := rf) (kk := kk) (th := nI (tW 0 0)) ⟨h19_14, h20_14, h21_14, h22_14, hb_14, hbl_14, hb3_14⟩ hn1 hn2 gm gr gx12 q1 c4 (by first | assumption | omega) (by first | assumption | omega) (kc := 0) (ks := 0)) hdp (st := [.int (nI q3), .ref 19, .int (nI (mv (q3 * 7 + c4))), .ref 22]) (Nat.le_of_ble_eq_true rfl) rfl (kr_P fun v20 hv20 => ?_) kx_I
              subst hv20
              have hq21 := gm (q1 * 7 + c4)
              refine J_callV0 (pc := 67) (M := mX8_rename) (as := [.int (nI q3), .int (nI (mv (q1 * 7 + c4)))]) dX8_rename_67 fw_X8_at fl_X8_82 fm_X8_at fe_X8_at h19_14 (by decide) rfl rfl rfl (c_X8_at hs (d := d - 1) (Nat.le_trans (by decide) hdm) (w := w9) (n := n) (mv := mv) (rw := rw) (nx := nx_38) (b := b) (bt := bt) (kn := kn) (en := en) (dn := dn) (rf := rf) (kk := kk) (th := nI (tW 0 0)) ⟨h19_14, h20_14, h21_14, h22_14, hb_14, hbl_14, hb3_14⟩ hn1 hn2 gm gr gx12 q3 (mv (q1 * 7 + c4)) (by first | assumption | omega) (by first | assumption | omega) (kc := 0) (ks := 0)) hdp (st := [.int (nI (mv (q3 * 7 + c4))), .ref 22]) (Nat.le_of_ble_eq_true rfl) rfl (kr_P fun v22 hv22 => ?_) kx_I
              subst hv22
              have hq23 := gm (q3 * 7 + (mv (q1 * 7 + c4)))
              refine J_iastF (pc := 70) dX8_rename_70 h22_14 (by omega) (by decide) (fun w24 hln24 hc24 hne24 => ?_)
              have hg24 : ∀ i, (up nx_38 (mv (q3 * 7 + c4)) (mv (q3 * 7 + (mv (q1 * 7 + c4))))) i < 7 := up_b gx12 (by omega)
              have h19_24 := (hne24 19 (by decide)).trans h19_14
              have h20_24 := (hne24 20 (by decide)).trans h20_14
              have h21_24 := (hne24 21 (by decide)).trans h21_14
              have hb_24 := (hne24 _ (Nat.ne_of_gt (Nat.lt_of_lt_of_le (by decide) hb3_14))).trans hb_14
              have hF24 := hF11.st hln24 hne24 (Or.inl (by decide))
              refine J_iincN (pc := 71) (b := 1) dX8_rename_71 rfl (by decide) (by decide) rfl ?_
              show J X mX8_rename d kc ks 74 [some (.ref 19), some (.int (nI q1)), some (.int (nI q3)), some (.int (nI q5)), some (.int (nI (c4 + 1)))] [] w24 _
              refine J_goto (pc := 74) (tgt := 38) dX8_rename_74 (by decide) ?_
              exact J_sub (L' := [some (.ref 19), some (.int (nI q1)), some (.int (nI q3)), some (.int (nI q5)), some (.int (nI (c4 + 1)))]) ⟨rfl, ⟨rfl, ⟨rfl, ⟨rfl, ⟨rfl, trivial⟩⟩⟩⟩⟩ (ihlp38_8 w24 (up nx_38 (mv (q3 * 7 + c4)) (mv (q3 * 7 + (mv (q1 * 7 + c4))))) (c4 + 1) ⟨h19_24, h20_24, h21_24, hc24, hb_24, hbl_14, hb3_14⟩ hF24 hg24 (by intro p hp; by_cases e : p = c4; (subst e; exact up_s _ _ _); (rw [up_n (fun q => e ((hy0 q3 (by omega)).2 p c4 (by omega) (by omega) q))]; exact hv38_0 p (by omega))) (by first | assumption | omega) (by omega))
        exact J_sub (L' := [some (.ref 19), some (.int (nI q1)), some (.int (nI q3)), some (.int (nI q5)), some (.int (nI 0))]) ⟨rfl, ⟨rfl, ⟨rfl, ⟨rfl, ⟨rfl, trivial⟩⟩⟩⟩⟩ (lp38_8 _ w7 nx 0 ⟨h19_7, h20_7, h21_7, h22_7, hbb_7, hbl_7, hb3_7⟩ hF7 gx (by intro p hp; omega) (by first | assumption | omega) (Nat.lt_succ_self _))
set_option maxRecDepth 100000 in
set_option maxHeartbeats 4000000 in
theorem c_X8_swap_ate {X : jX} (hs : X.1.stackTraces = false) {d : Nat} (hd : 2 ≤ d) {n : Nat} {mv rw nx : Nat → Nat} {b : Nat} {bt : List Int32} {kn en dn rf kk th : Int32} {w : List jC} (hR : RM n mv rw nx b bt kn en dn rf kk th w) (hn1 : 2 ≤ n) (hn2 : n ≤ 7) (gm : ∀ i, mv i < 7) (gr : ∀ i, rw i < 7) (gx : ∀ i, nx i < 7) (a : Int32) (c : Int32) (hy0 : PM n mv) (hy1 : KB n kn bt) {kc ks : Nat} : jMet X mX8_swap d kc ks [.ref 19, .int a, .int c] w (pJ (fun v w' => ∃ (mv' : Nat → Nat), ∃ (kn' : Int32), ∃ (dn' : Int32), ∃ (th' : Int32), RM n mv' rw nx b bt kn' en dn' rf kk th' w' ∧ FR b b w w' ∧ (∀ i, mv' i < 7) ∧ PM n mv' ∧ KB n kn' bt ∧ ((th' = nI 1 ∧ ¬ (isN a 6 ∧ isN c 6) ∧ mv' = mv ∧ kn' = kn ∧ dn' = dn) ∨ (th' = nI 0 ∧ (∃ a1 b1 : Nat, a = nI a1 ∧ c = nI b1 ∧ a1 < 6 ∧ b1 < 6 ∧ mv' = sw mv a1 b1 n ∧ ((v = nI 0 ∧ ∀ p, p < n → mv (a1 * 7 + p) = mv (b1 * 7 + p)) ∨ (v = nI 1 ∧ ¬ ∀ p, p < n → mv (a1 * 7 + p) = mv (b1 * 7 + p)))) ∧ kn' = (-1) ∧ dn' = (dn + nI 1))))) := by
  refine jMet_of hs (by decide +kernel) (Nat.le_of_ble_eq_true rfl) (L := [some (.ref 19), some (.int a), some (.int c), none, none, none]) rfl ?_
  have hdm : 1 ≤ d - 1 := by omega
  have hdp : d - 1 + 1 ≤ d := by omega
  have hfc := fc_7 hn2
  have hfp := fc_pos n
  obtain ⟨h19, h20, h21, h22, hbb, hbl, hb3⟩ := hR
  have hF : FR b b w w := FR.rf
  refine J_aload_n (pc := 0) dX8_swap_0 rfl rfl rfl ?_
  refine J_iload_n (pc := 1) dX8_swap_1 rfl rfl ?_
  refine J_callS0 (pc := 2) (M := mX8_swap) (as := [.int a]) dX8_swap_2 fw_X8_isCell fl_X8_108 fs_X8_isCell rfl (c_X8_isCell hs (d := d - 1) (Nat.le_trans (by decide) hdm) (w := w) a (kc := 0) (ks := 0)) hdp (st := [.ref 19]) (Nat.le_of_ble_eq_true rfl) rfl (kr_P fun v1 hv1 => ?_) kx_I
  rcases hv1 with ⟨rfl, hk1_0⟩ | ⟨q1, rfl, hk1_0, rfl⟩
  · refine J_if_eqN (pc := 5) (tgt := 15) dX8_swap_5 (by decide) (by decide) (fun _ => ?_) (fun h => absurd h (by decide))
    refine J_iconst (pc := 15) (v := nI 1) dX8_swap_15 (by decide) ?_
    refine J_goto (pc := 16) (tgt := 20) dX8_swap_16 (by decide) ?_
    refine J_callV0 (pc := 20) (M := mX8_swap) (as := [.int (nI 1)]) dX8_swap_20 fw_X8_isThrown_ fl_X8_105 fm_X8_isThrown_ fe_X8_isThrown_ h19 (by decide) rfl rfl rfl (c_X8_isThrown_ hs (d := d - 1) (Nat.le_trans (by decide) hdm) (w := w) (n := n) (mv := mv) (rw := rw) (nx := nx) (b := b) (bt := bt) (kn := kn) (en := en) (dn := dn) (rf := rf) (kk := kk) (th := th) ⟨h19, h20, h21, h22, hbb, hbl, hb3⟩ hn1 hn2 gm gr gx 1 (by first | assumption | omega) (kc := 0) (ks := 0)) hdp (st := []) (Nat.le_of_ble_eq_true rfl) rfl (kr_I fun v2 w2 hv2 hw2 => ?_) kx_I
    obtain ⟨hR2, hFc2⟩ := hw2
    obtain ⟨h19_2, h20_2, h21_2, h22_2, hbb_2, hbl_2, hb3_2⟩ := hR2
    have hF2 := hF.tr hFc2
    subst hv2
    show J X mX8_swap d kc ks 23 [some (.ref 19), some (.int a), some (.int c), none, none, none] [.int (nI 1)] w2 _
    refine J_if_eqN (pc := 23) (tgt := 28) dX8_swap_23 (by decide) (by decide) (fun h => absurd h (by decide)) (fun _ => ?_)
    refine J_iconst (pc := 26) (v := nI 0) dX8_swap_26 (by decide) ?_
    exact J_iret (pc := 27) dX8_swap_27 rfl (⟨mv, kn, dn, nI (tW 1 0), ⟨h19_2, h20_2, h21_2, h22_2, hbb_2, hbl_2, hb3_2⟩, hF2, gm, (by first | assumption | exact PM_sw hn2 (by assumption) (by assumption) (by assumption) (by assumption) (by omega)), (by first | assumption | exact Or.inl rfl), (by first | exact Or.inl ⟨rfl, fun g => (by first | exact ne_isN (by assumption) g | exact ne_isN (by assumption) g.1 | exact ne_isN (by assumption) g.2 | exact ne_isN (by assumption) g.2.1 | exact ne_isN (by assumption) g.2.2 | exact ne_isN (by assumption) g.2.2.1 | exact ne_isN (by assumption) g.2.2.2), rfl, rfl, rfl⟩ | exact Or.inr (⟨rfl, ⟨_, _, rfl, rfl, by omega, by omega, by rw [hv38_0, show c4 = n by omega], (by first | exact Or.inl ⟨rfl, by assumption⟩ | exact Or.inr ⟨rfl, by assumption⟩)⟩, rfl, rfl⟩))⟩)
  · refine J_if_eqN (pc := 5) (tgt := 15) dX8_swap_5 (by decide) (by decide) (fun h => absurd h (by decide)) (fun _ => ?_)
    refine J_iload_n (pc := 8) dX8_swap_8 rfl rfl ?_
    refine J_callS0 (pc := 9) (M := mX8_swap) (as := [.int c]) dX8_swap_9 fw_X8_isCell fl_X8_108 fs_X8_isCell rfl (c_X8_isCell hs (d := d - 1) (Nat.le_trans (by decide) hdm) (w := w) c (kc := 0) (ks := 0)) hdp (st := [.ref 19]) (Nat.le_of_ble_eq_true rfl) rfl (kr_P fun v3 hv3 => ?_) kx_I
    rcases hv3 with ⟨rfl, hk3_0⟩ | ⟨q3, rfl, hk3_0, rfl⟩
    · refine J_if_neN (pc := 12) (tgt := 19) dX8_swap_12 (by decide) (by decide) (fun h => absurd h (by decide)) (fun _ => ?_)
      refine J_iconst (pc := 15) (v := nI 1) dX8_swap_15 (by decide) ?_
      refine J_goto (pc := 16) (tgt := 20) dX8_swap_16 (by decide) ?_
      refine J_callV0 (pc := 20) (M := mX8_swap) (as := [.int (nI 1)]) dX8_swap_20 fw_X8_isThrown_ fl_X8_105 fm_X8_isThrown_ fe_X8_isThrown_ h19 (by decide) rfl rfl rfl (c_X8_isThrown_ hs (d := d - 1) (Nat.le_trans (by decide) hdm) (w := w) (n := n) (mv := mv) (rw := rw) (nx := nx) (b := b) (bt := bt) (kn := kn) (en := en) (dn := dn) (rf := rf) (kk := kk) (th := th) ⟨h19, h20, h21, h22, hbb, hbl, hb3⟩ hn1 hn2 gm gr gx 1 (by first | assumption | omega) (kc := 0) (ks := 0)) hdp (st := []) (Nat.le_of_ble_eq_true rfl) rfl (kr_I fun v4 w4 hv4 hw4 => ?_) kx_I
      obtain ⟨hR4, hFc4⟩ := hw4
      obtain ⟨h19_4, h20_4, h21_4, h22_4, hbb_4, hbl_4, hb3_4⟩ := hR4
      have hF4 := hF.tr hFc4
      subst hv4
      show J X mX8_swap d kc ks 23 [some (.ref 19), some (.int (nI q1)), some (.int c), none, none, none] [.int (nI 1)] w4 _
      refine J_if_eqN (pc := 23) (tgt := 28) dX8_swap_23 (by decide) (by decide) (fun h => absurd h (by decide)) (fun _ => ?_)
      refine J_iconst (pc := 26) (v := nI 0) dX8_swap_26 (by decide) ?_
      exact J_iret (pc := 27) dX8_swap_27 rfl (⟨mv, kn, dn, nI (tW 1 0), ⟨h19_4, h20_4, h21_4, h22_4, hbb_4, hbl_4, hb3_4⟩, hF4, gm, (by first | assumption | exact PM_sw hn2 (by assumption) (by assumption) (by assumption) (by assumption) (by omega)), (by first | assumption | exact Or.inl rfl), (by first | exact Or.inl ⟨rfl, fun g => (by first | exact ne_isN (by assumption) g | exact ne_isN (by assumption) g.1 | exact ne_isN (by assumption) g.2 | exact ne_isN (by assumption) g.2.1 | exact ne_isN (by assumption) g.2.2 | exact ne_isN (by assumption) g.2.2.1 | exact ne_isN (by assumption) g.2.2.2), rfl, rfl, rfl⟩ | exact Or.inr (⟨rfl, ⟨_, _, rfl, rfl, by omega, by omega, by rw [hv38_0, show c4 = n by omega], (by first | exact Or.inl ⟨rfl, by assumption⟩ | exact Or.inr ⟨rfl, by assumption⟩)⟩, rfl, rfl⟩))⟩)
    · refine J_if_neN (pc := 12) (tgt := 19) dX8_swap_12 (by decide) (by decide) (fun _ => ?_) (fun h => absurd h (by decide))
      refine J_iconst (pc := 19) (v := nI 0) dX8_swap_19 (by decide) ?_
      refine J_callV0 (pc := 20) (M := mX8_swap) (as := [.int (nI 0)]) dX8_swap_20 fw_X8_isThrown_ fl_X8_105 fm_X8_isThrown_ fe_X8_isThrown_ h19 (by decide) rfl rfl rfl (c_X8_isThrown_ hs (d := d - 1) (Nat.le_trans (by decide) hdm) (w := w) (n := n) (mv := mv) (rw := rw) (nx := nx) (b := b) (bt := bt) (kn := kn) (en := en) (dn := dn) (rf := rf) (kk := kk) (th := th) ⟨h19, h20, h21, h22, hbb, hbl, hb3⟩ hn1 hn2 gm gr gx 0 (by first | assumption | omega) (kc := 0) (ks := 0)) hdp (st := []) (Nat.le_of_ble_eq_true rfl) rfl (kr_I fun v5 w5 hv5 hw5 => ?_) kx_I
      obtain ⟨hR5, hFc5⟩ := hw5
      obtain ⟨h19_5, h20_5, h21_5, h22_5, hbb_5, hbl_5, hb3_5⟩ := hR5
      have hF5 := hF.tr hFc5
      subst hv5
      show J X mX8_swap d kc ks 23 [some (.ref 19), some (.int (nI q1)), some (.int (nI q3)), none, none, none] [.int (nI 0)] w5 _
      refine J_if_eqN (pc := 23) (tgt := 28) dX8_swap_23 (by decide) (by decide) (fun _ => ?_) (fun h => absurd h (by decide))
      refine J_aload_n (pc := 28) dX8_swap_28 rfl rfl rfl ?_
      refine J_iload_n (pc := 29) dX8_swap_29 rfl rfl ?_
      refine J_iload_n (pc := 30) dX8_swap_30 rfl rfl ?_
      refine J_callV0 (pc := 31) (M := mX8_swap) (as := [.int (nI q1), .int (nI q3)]) dX8_swap_31 fw_X8_areUnlike fl_X8_127 fm_X8_areUnlike fe_X8_areUnlike h19_5 (by decide) rfl rfl rfl (c_X8_areUnlike_atx hs (d := d - 1) (Nat.le_trans (by decide) hdm) (w := w5) (n := n) (mv := mv) (rw := rw) (nx := nx) (b := b) (bt := bt) (kn := kn) (en := en) (dn := dn) (rf := rf) (kk := kk) (th := nI (tW 0 0)) ⟨h19_5, h20_5, h21_5, h22_5, hbb_5, hbl_5, hb3_5⟩ hn1 hn2 gm gr gx q1 q3 (by first | assumption | omega) (by first | assumption | omega) (kc := 0) (ks := 0)) hdp (st := []) (Nat.le_of_ble_eq_true rfl) rfl (kr_P fun v6 hv6 => ?_) kx_I
      rcases hv6 with ⟨rfl, hk6_0⟩ | ⟨rfl, hk6_0⟩
      · refine J_istore_n (pc := 34) dX8_swap_34 rfl (by decide) rfl ?_
        show J X mX8_swap d kc ks 35 [some (.ref 19), some (.int (nI q1)), some (.int (nI q3)), some (.int (nI 0)), none, none] [] w5 _
        refine J_iconst (pc := 35) (v := nI 0) dX8_swap_35 (by decide) ?_
        refine J_istore (pc := 36) dX8_swap_36 (by decide) rfl ?_
        show J X mX8_swap d kc ks 38 [some (.ref 19), some (.int (nI q1)), some (.int (nI q3)), some (.int (nI 0)), some (.int (nI 0)), none] [] w5 _
        have lp38_7 : ∀ (fuel : Nat) (w8 : List jC) (mv_38 : Nat → Nat) (c4 : Nat), (RM n mv_38 rw nx b bt kn en dn rf kk (nI (tW 0 0)) w8) → (FR b b w w8) → (∀ i, mv_38 i < 7) → (mv_38 = sw mv q1 q3 c4) → (c4 ≤ n) → (n - c4 < fuel) → J X mX8_swap d kc ks 38 [some (.ref 19), some (.int (nI q1)), some (.int (nI q3)), some (.int (nI 0)), some (.int (nI c4)), none] [] w8 (pJ (fun v w' => ∃ (mv' : Nat → Nat), ∃ (kn' : Int32), ∃ (dn' : Int32), ∃ (th' : Int32), RM n mv' rw nx b bt kn' en dn' rf kk th' w' ∧ FR b b w w' ∧ (∀ i, mv' i < 7) ∧ PM n mv' ∧ KB n kn' bt ∧ ((th' = nI 1 ∧ ¬ (isN (nI q1) 6 ∧ isN (nI q3) 6) ∧ mv' = mv ∧ kn' = kn ∧ dn' = dn) ∨ (th' = nI 0 ∧ (∃ a1 b1 : Nat, (nI q1) = nI a1 ∧ (nI q3) = nI b1 ∧ a1 < 6 ∧ b1 < 6 ∧ mv' = sw mv a1 b1 n ∧ ((v = nI 0 ∧ ∀ p, p < n → mv (a1 * 7 + p) = mv (b1 * 7 + p)) ∨ (v = nI 1 ∧ ¬ ∀ p, p < n → mv (a1 * 7 + p) = mv (b1 * 7 + p)))) ∧ kn' = (-1) ∧ dn' = (dn + nI 1))))) := by
          intro fuellp38_7
          induction fuellp38_7 with
          | zero => intros; omega
          | succ fuellp38_7 ihlp38_7 =>
            intro w8 mv_38 c4 hR9 hF10 gm11 hv38_0 hv38_1 hf12
            obtain ⟨h19_13, h20_13, h21_13, h22_13, hb_13, hbl_13, hb3_13⟩ := hR9
            refine J_iload (pc := 38) dX8_swap_38 rfl ?_
            refine J_aload_n (pc := 40) dX8_swap_40 rfl rfl rfl ?_
            refine J_get (pc := 41) (k := 0) dX8_swap_41 kC9 (by decide) ff_X8_7 h19_13 rfl ?_
            refine J_icmp_geN (pc := 44) (tgt := 95) dX8_swap_44 (by decide) (by omega) (by omega) (fun ht14 => ?_) (fun hf15 => ?_)
            · refine J_aload_n (pc := 95) dX8_swap_95 rfl rfl rfl ?_
              refine J_iconst (pc := 96) (v := (-1)) dX8_swap_96 (by decide) ?_
              refine J_putW (pc := 97) (k := 5) dX8_swap_97 kC9 (by decide) ff_X8_26 (Or.inl rfl) ⟨rfl, rfl⟩ h19_13 (by show 5 < 11; decide) (fun w16 hln16 hw16 hne16 => ?_)
              have h19_16 : w16[19]? = some (.inr (9, [.int (nI n), .ref 20, .ref 21, .ref 22, .ref b, .int (-1), .int en, .int dn, .int rf, .int kk, .int (nI (tW 0 0))])) := hw16
              have h20_16 := (hne16 20 (by decide)).trans h20_13
              have h21_16 := (hne16 21 (by decide)).trans h21_13
              have h22_16 := (hne16 22 (by decide)).trans h22_13
              have hb_16 := (hne16 _ (Nat.ne_of_gt (Nat.lt_of_lt_of_le (by decide) hb3_13))).trans hb_13
              have hF16 := hF10.st hln16 hne16 (Or.inl (by decide))
              refine J_aload_n (pc := 100) dX8_swap_100 rfl rfl rfl ?_
              refine J_iload_n (pc := 101) dX8_swap_101 rfl rfl ?_
              refine J_if_eqN (pc := 102) (tgt := 109) dX8_swap_102 (by decide) (by decide) (fun _ => ?_) (fun h => absurd h (by decide))
              refine J_iconst (pc := 109) (v := nI 0) dX8_swap_109 (by decide) ?_
              refine J_callV0 (pc := 110) (M := mX8_swap) (as := [.int (nI 0)]) dX8_swap_110 fw_X8_told fl_X8_49 fm_X8_told fe_X8_told h19_16 (by decide) rfl rfl rfl (c_X8_told hs (d := d - 1) (Nat.le_trans (by decide) hdm) (w := w16) (n := n) (mv := mv_38) (rw := rw) (nx := nx) (b := b) (bt := bt) (kn := (-1)) (en := en) (dn := dn) (rf := rf) (kk := kk) (th := nI (tW 0 0)) ⟨h19_16, h20_16, h21_16, h22_16, hb_16, hbl_13, hb3_13⟩ hn1 hn2 gm11 gr gx (nI 0) (kc := 0) (ks := 0)) hdp (st := []) (Nat.le_of_ble_eq_true rfl) rfl (kr_I fun v17 w17 hv17 hw17 => ?_) kx_I
              obtain ⟨hR17, hFc17⟩ := hw17
              obtain ⟨h19_17, h20_17, h21_17, h22_17, hbb_17, hbl_17, hb3_17⟩ := hR17
              have hF17 := hF16.tr hFc17
              subst hv17
              exact J_iret (pc := 113) dX8_swap_113 rfl (⟨mv_38, (-1), (dn + nI 1), nI (tW 0 0), ⟨h19_17, h20_17, h21_17, h22_17, hbb_17, hbl_17, hb3_17⟩, hF17, gm11, (by first | assumption | exact PM_sw hn2 (by assumption) (by assumption) (by assumption) (by assumption) (by omega)), (by first | assumption | exact Or.inl rfl), (by first | exact Or.inl ⟨rfl, fun g => (by first | exact ne_isN (by assumption) g | exact ne_isN (by assumption) g.1 | exact ne_isN (by assumption) g.2 | exact ne_isN (by assumption) g.2.1 | exact ne_isN (by assumption) g.2.2 | exact ne_isN (by assumption) g.2.2.1 | exact ne_isN (by assumption) g.2.2.2), rfl, rfl, rfl⟩ | exact Or.inr (⟨rfl, ⟨_, _, rfl, rfl, by omega, by omega, by rw [hv38_0, show c4 = n by omega], (by first | exact Or.inl ⟨rfl, by assumption⟩ | exact Or.inr ⟨rfl, by assumption⟩)⟩, rfl, rfl⟩))⟩)
            · refine J_aload_n (pc := 47) dX8_swap_47 rfl rfl rfl ?_
              refine J_iload_n (pc := 48) dX8_swap_48 rfl rfl ?_
              refine J_iload (pc := 49) dX8_swap_49 rfl ?_
              refine J_callV0 (pc := 51) (M := mX8_swap) (as := [.int (nI q1), .int (nI c4)]) dX8_swap_51 fw_X8_at fl_X8_82 fm_X8_at fe_X8_at h19_13 (by decide) rfl rfl rfl (c_X8_at hs (d := d - 1) (Nat.le_trans (by decide) hdm) (w := w8) (n := n) (mv := mv_38) (rw := rw) (nx := nx) (b := b) (bt := bt) (kn := kn) (en := en) (dn := dn) (rf := rf) (kk := kk) (th := nI (tW 0 0)) ⟨h19_13, h20_13, h21_13, h22_13, hb_13, hbl_13, hb3_13⟩ hn1 hn2 gm11 gr gx q1 c4 (by first | assumption | omega) (by first | assumption | omega) (kc := 0) (ks := 0)) hdp (st := []) (Nat.le_of_ble_eq_true rfl) rfl (kr_P fun v18 hv18 => ?_) kx_I
              subst hv18
              have hq19 := gm11 (q1 * 7 + c4)
              refine J_istore (pc := 54) dX8_swap_54 (by decide) rfl ?_
              show J X mX8_swap d kc ks 56 [some (.ref 19), some (.int (nI q1)), some (.int (nI q3)), some (.int (nI 0)), some (.int (nI c4)), some (.int (nI (mv_38 (q1 * 7 + c4))))] [] w8 _
              refine J_aload_n (pc := 56) dX8_swap_56 rfl rfl rfl ?_
              refine J_get (pc := 57) (k := 1) dX8_swap_57 kC9 (by decide) ff_X8_13 h19_13 rfl ?_
              refine J_iload_n (pc := 60) dX8_swap_60 rfl rfl ?_
              refine J_bipush (pc := 61) (v := nI 7) dX8_swap_61 (by decide) ?_
              refine J_imulN (pc := 63) dX8_swap_63 ?_
              refine J_iload (pc := 64) dX8_swap_64 rfl ?_
              refine J_iaddN (pc := 66) dX8_swap_66 ?_
              refine J_aload_n (pc := 67) dX8_swap_67 rfl rfl rfl ?_
              refine J_iload_n (pc := 68) dX8_swap_68 rfl rfl ?_
              refine J_iload (pc := 69) dX8_swap_69 rfl ?_
              refine J_callV0 (pc := 71) (M := mX8_swap) (as := [.int (nI q3), .int (nI c4)]) dX8_swap_71 fw_X8_at fl_X8_82 fm_X8_at fe_X8_at h19_13 (by decide) rfl rfl rfl (c_X8_at hs (d := d - 1) (Nat.le_trans (by decide) hdm) (w := w8) (n := n) (mv := mv_38) (rw := rw) (nx := nx) (b := b) (bt := bt) (kn := kn) (en := en) (dn := dn) (rf := rf) (kk := kk) (th := nI (tW 0 0)) ⟨h19_13, h20_13, h21_13, h22_13, hb_13, hbl_13, hb3_13⟩ hn1 hn2 gm11 gr gx q3 c4 (by first | assumption | omega) (by first | assumption | omega) (kc := 0) (ks := 0)) hdp (st := [.int (nI ((q1 * 7) + c4)), .ref 20]) (Nat.le_of_ble_eq_true rfl) rfl (kr_P fun v20 hv20 => ?_) kx_I
              subst hv20
              have hq21 := gm11 (q3 * 7 + c4)
              refine J_iastF (pc := 74) dX8_swap_74 h20_13 (by omega) (by decide) (fun w22 hln22 hc22 hne22 => ?_)
              have hg22 : ∀ i, (up mv_38 ((q1 * 7) + c4) (mv_38 (q3 * 7 + c4))) i < 7 := up_b gm11 (by omega)
              have h19_22 := (hne22 19 (by decide)).trans h19_13
              have h21_22 := (hne22 21 (by decide)).trans h21_13
              have h22_22 := (hne22 22 (by decide)).trans h22_13
              have hb_22 := (hne22 _ (Nat.ne_of_gt (Nat.lt_of_lt_of_le (by decide) hb3_13))).trans hb_13
              have hF22 := hF10.st hln22 hne22 (Or.inl (by decide))
              refine J_aload_n (pc := 75) dX8_swap_75 rfl rfl rfl ?_
              refine J_get (pc := 76) (k := 1) dX8_swap_76 kC9 (by decide) ff_X8_13 h19_22 rfl ?_
              refine J_iload_n (pc := 79) dX8_swap_79 rfl rfl ?_
              refine J_bipush (pc := 80) (v := nI 7) dX8_swap_80 (by decide) ?_
              refine J_imulN (pc := 82) dX8_swap_82 ?_
              refine J_iload (pc := 83) dX8_swap_83 rfl ?_
              refine J_iaddN (pc := 85) dX8_swap_85 ?_
              refine J_iload (pc := 86) dX8_swap_86 rfl ?_
              refine J_iastF (pc := 88) dX8_swap_88 hc22 (by omega) (by decide) (fun w23 hln23 hc23 hne23 => ?_)
              have hg23 : ∀ i, (up (up mv_38 ((q1 * 7) + c4) (mv_38 (q3 * 7 + c4))) ((q3 * 7) + c4) (mv_38 (q1 * 7 + c4))) i < 7 := up_b hg22 (by omega)
              have h19_23 := (hne23 19 (by decide)).trans h19_22
              have h21_23 := (hne23 21 (by decide)).trans h21_22
              have h22_23 := (hne23 22 (by decide)).trans h22_22
              have hb_23 := (hne23 _ (Nat.ne_of_gt (Nat.lt_of_lt_of_le (by decide) hb3_13))).trans hb_22
              have hF23 := hF22.st hln23 hne23 (Or.inl (by decide))
              refine J_iincN (pc := 89) (b := 1) dX8_swap_89 rfl (by decide) (by decide) rfl ?_
              show J X mX8_swap d kc ks 92 [some (.ref 19), some (.int (nI q1)), some (.int (nI q3)), some (.int (nI 0)), some (.int (nI (c4 + 1))), some (.int (nI (mv_38 (q1 * 7 + c4))))] [] w23 _
              refine J_goto (pc := 92) (tgt := 38) dX8_swap_92 (by decide) ?_
              exact J_sub (L' := [some (.ref 19), some (.int (nI q1)), some (.int (nI q3)), some (.int (nI 0)), some (.int (nI (c4 + 1))), none]) ⟨rfl, ⟨rfl, ⟨rfl, ⟨rfl, ⟨rfl, trivial⟩⟩⟩⟩⟩ (ihlp38_7 w23 (up (up mv_38 ((q1 * 7) + c4) (mv_38 (q3 * 7 + c4))) ((q3 * 7) + c4) (mv_38 (q1 * 7 + c4))) (c4 + 1) ⟨h19_23, hc23, h21_23, h22_23, hb_23, hbl_13, hb3_13⟩ hF23 hg23 (by rw [hv38_0]; exact sw_s (by omega) (by omega) (by omega)) (by first | assumption | omega) (by omega))
        exact J_sub (L' := [some (.ref 19), some (.int (nI q1)), some (.int (nI q3)), some (.int (nI 0)), some (.int (nI 0)), none]) ⟨rfl, ⟨rfl, ⟨rfl, ⟨rfl, ⟨rfl, trivial⟩⟩⟩⟩⟩ (lp38_7 _ w5 mv 0 ⟨h19_5, h20_5, h21_5, h22_5, hbb_5, hbl_5, hb3_5⟩ hF5 gm (by exact (sw_0 _ _ _).symm) (by first | assumption | omega) (Nat.lt_succ_self _))
      · refine J_istore_n (pc := 34) dX8_swap_34 rfl (by decide) rfl ?_
        show J X mX8_swap d kc ks 35 [some (.ref 19), some (.int (nI q1)), some (.int (nI q3)), some (.int (nI 1)), none, none] [] w5 _
        refine J_iconst (pc := 35) (v := nI 0) dX8_swap_35 (by decide) ?_
        refine J_istore (pc := 36) dX8_swap_36 (by decide) rfl ?_
        show J X mX8_swap d kc ks 38 [some (.ref 19), some (.int (nI q1)), some (.int (nI q3)), some (.int (nI 1)), some (.int (nI 0)), none] [] w5 _
        have lp38_24 : ∀ (fuel : Nat) (w25 : List jC) (mv_38 : Nat → Nat) (c4 : Nat), (RM n mv_38 rw nx b bt kn en dn rf kk (nI (tW 0 0)) w25) → (FR b b w w25) → (∀ i, mv_38 i < 7) → (mv_38 = sw mv q1 q3 c4) → (c4 ≤ n) → (n - c4 < fuel) → J X mX8_swap d kc ks 38 [some (.ref 19), some (.int (nI q1)), some (.int (nI q3)), some (.int (nI 1)), some (.int (nI c4)), none] [] w25 (pJ (fun v w' => ∃ (mv' : Nat → Nat), ∃ (kn' : Int32), ∃ (dn' : Int32), ∃ (th' : Int32), RM n mv' rw nx b bt kn' en dn' rf kk th' w' ∧ FR b b w w' ∧ (∀ i, mv' i < 7) ∧ PM n mv' ∧ KB n kn' bt ∧ ((th' = nI 1 ∧ ¬ (isN (nI q1) 6 ∧ isN (nI q3) 6) ∧ mv' = mv ∧ kn' = kn ∧ dn' = dn) ∨ (th' = nI 0 ∧ (∃ a1 b1 : Nat, (nI q1) = nI a1 ∧ (nI q3) = nI b1 ∧ a1 < 6 ∧ b1 < 6 ∧ mv' = sw mv a1 b1 n ∧ ((v = nI 0 ∧ ∀ p, p < n → mv (a1 * 7 + p) = mv (b1 * 7 + p)) ∨ (v = nI 1 ∧ ¬ ∀ p, p < n → mv (a1 * 7 + p) = mv (b1 * 7 + p)))) ∧ kn' = (-1) ∧ dn' = (dn + nI 1))))) := by
          intro fuellp38_24
          induction fuellp38_24 with
          | zero => intros; omega
          | succ fuellp38_24 ihlp38_24 =>
            intro w25 mv_38 c4 hR26 hF27 gm28 hv38_0 hv38_1 hf29
            obtain ⟨h19_30, h20_30, h21_30, h22_30, hb_30, hbl_30, hb3_30⟩ := hR26
            refine J_iload (pc := 38) dX8_swap_38 rfl ?_
            refine J_aload_n (pc := 40) dX8_swap_40 rfl rfl rfl ?_
            refine J_get (pc := 41) (k := 0) dX8_swap_41 kC9 (by decide) ff_X8_7 h19_30 rfl ?_
            refine J_icmp_geN (pc := 44) (tgt := 95) dX8_swap_44 (by decide) (by omega) (by omega) (fun ht31 => ?_) (fun hf32 => ?_)
            · refine J_aload_n (pc := 95) dX8_swap_95 rfl rfl rfl ?_
              refine J_iconst (pc := 96) (v := (-1)) dX8_swap_96 (by decide) ?_
              refine J_putW (pc := 97) (k := 5) dX8_swap_97 kC9 (by decide) ff_X8_26 (Or.inl rfl) ⟨rfl, rfl⟩ h19_30 (by show 5 < 11; decide) (fun w33 hln33 hw33 hne33 => ?_)
              have h19_33 : w33[19]? = some (.inr (9, [.int (nI n), .ref 20, .ref 21, .ref 22, .ref b, .int (-1), .int en, .int dn, .int rf, .int kk, .int (nI (tW 0 0))])) := hw33
              have h20_33 := (hne33 20 (by decide)).trans h20_30
              have h21_33 := (hne33 21 (by decide)).trans h21_30
              have h22_33 := (hne33 22 (by decide)).trans h22_30
              have hb_33 := (hne33 _ (Nat.ne_of_gt (Nat.lt_of_lt_of_le (by decide) hb3_30))).trans hb_30
              have hF33 := hF27.st hln33 hne33 (Or.inl (by decide))
              refine J_aload_n (pc := 100) dX8_swap_100 rfl rfl rfl ?_
              refine J_iload_n (pc := 101) dX8_swap_101 rfl rfl ?_
              refine J_if_eqN (pc := 102) (tgt := 109) dX8_swap_102 (by decide) (by decide) (fun h => absurd h (by decide)) (fun _ => ?_)
              refine J_iconst (pc := 105) (v := nI 1) dX8_swap_105 (by decide) ?_
              refine J_goto (pc := 106) (tgt := 110) dX8_swap_106 (by decide) ?_
              refine J_callV0 (pc := 110) (M := mX8_swap) (as := [.int (nI 1)]) dX8_swap_110 fw_X8_told fl_X8_49 fm_X8_told fe_X8_told h19_33 (by decide) rfl rfl rfl (c_X8_told hs (d := d - 1) (Nat.le_trans (by decide) hdm) (w := w33) (n := n) (mv := mv_38) (rw := rw) (nx := nx) (b := b) (bt := bt) (kn := (-1)) (en := en) (dn := dn) (rf := rf) (kk := kk) (th := nI (tW 0 0)) ⟨h19_33, h20_33, h21_33, h22_33, hb_33, hbl_30, hb3_30⟩ hn1 hn2 gm28 gr gx (nI 1) (kc := 0) (ks := 0)) hdp (st := []) (Nat.le_of_ble_eq_true rfl) rfl (kr_I fun v34 w34 hv34 hw34 => ?_) kx_I
              obtain ⟨hR34, hFc34⟩ := hw34
              obtain ⟨h19_34, h20_34, h21_34, h22_34, hbb_34, hbl_34, hb3_34⟩ := hR34
              have hF34 := hF33.tr hFc34
              subst hv34
              exact J_iret (pc := 113) dX8_swap_113 rfl (⟨mv_38, (-1), (dn + nI 1), nI (tW 0 0), ⟨h19_34, h20_34, h21_34, h22_34, hbb_34, hbl_34, hb3_34⟩, hF34, gm28, (by first | assumption | exact PM_sw hn2 (by assumption) (by assumption) (by assumption) (by assumption) (by omega)), (by first | assumption | exact Or.inl rfl), (by first | exact Or.inl ⟨rfl, fun g => (by first | exact ne_isN (by assumption) g | exact ne_isN (by assumption) g.1 | exact ne_isN (by assumption) g.2 | exact ne_isN (by assumption) g.2.1 | exact ne_isN (by assumption) g.2.2 | exact ne_isN (by assumption) g.2.2.1 | exact ne_isN (by assumption) g.2.2.2), rfl, rfl, rfl⟩ | exact Or.inr (⟨rfl, ⟨_, _, rfl, rfl, by omega, by omega, by rw [hv38_0, show c4 = n by omega], (by first | exact Or.inl ⟨rfl, by assumption⟩ | exact Or.inr ⟨rfl, by assumption⟩)⟩, rfl, rfl⟩))⟩)
            · refine J_aload_n (pc := 47) dX8_swap_47 rfl rfl rfl ?_
              refine J_iload_n (pc := 48) dX8_swap_48 rfl rfl ?_
              refine J_iload (pc := 49) dX8_swap_49 rfl ?_
              refine J_callV0 (pc := 51) (M := mX8_swap) (as := [.int (nI q1), .int (nI c4)]) dX8_swap_51 fw_X8_at fl_X8_82 fm_X8_at fe_X8_at h19_30 (by decide) rfl rfl rfl (c_X8_at hs (d := d - 1) (Nat.le_trans (by decide) hdm) (w := w25) (n := n) (mv := mv_38) (rw := rw) (nx := nx) (b := b) (bt := bt) (kn := kn) (en := en) (dn := dn) (rf := rf) (kk := kk) (th := nI (tW 0 0)) ⟨h19_30, h20_30, h21_30, h22_30, hb_30, hbl_30, hb3_30⟩ hn1 hn2 gm28 gr gx q1 c4 (by first | assumption | omega) (by first | assumption | omega) (kc := 0) (ks := 0)) hdp (st := []) (Nat.le_of_ble_eq_true rfl) rfl (kr_P fun v35 hv35 => ?_) kx_I
              subst hv35
              have hq36 := gm28 (q1 * 7 + c4)
              refine J_istore (pc := 54) dX8_swap_54 (by decide) rfl ?_
              show J X mX8_swap d kc ks 56 [some (.ref 19), some (.int (nI q1)), some (.int (nI q3)), some (.int (nI 1)), some (.int (nI c4)), some (.int (nI (mv_38 (q1 * 7 + c4))))] [] w25 _
              refine J_aload_n (pc := 56) dX8_swap_56 rfl rfl rfl ?_
              refine J_get (pc := 57) (k := 1) dX8_swap_57 kC9 (by decide) ff_X8_13 h19_30 rfl ?_
              refine J_iload_n (pc := 60) dX8_swap_60 rfl rfl ?_
              refine J_bipush (pc := 61) (v := nI 7) dX8_swap_61 (by decide) ?_
              refine J_imulN (pc := 63) dX8_swap_63 ?_
              refine J_iload (pc := 64) dX8_swap_64 rfl ?_
              refine J_iaddN (pc := 66) dX8_swap_66 ?_
              refine J_aload_n (pc := 67) dX8_swap_67 rfl rfl rfl ?_
              refine J_iload_n (pc := 68) dX8_swap_68 rfl rfl ?_
              refine J_iload (pc := 69) dX8_swap_69 rfl ?_
              refine J_callV0 (pc := 71) (M := mX8_swap) (as := [.int (nI q3), .int (nI c4)]) dX8_swap_71 fw_X8_at fl_X8_82 fm_X8_at fe_X8_at h19_30 (by decide) rfl rfl rfl (c_X8_at hs (d := d - 1) (Nat.le_trans (by decide) hdm) (w := w25) (n := n) (mv := mv_38) (rw := rw) (nx := nx) (b := b) (bt := bt) (kn := kn) (en := en) (dn := dn) (rf := rf) (kk := kk) (th := nI (tW 0 0)) ⟨h19_30, h20_30, h21_30, h22_30, hb_30, hbl_30, hb3_30⟩ hn1 hn2 gm28 gr gx q3 c4 (by first | assumption | omega) (by first | assumption | omega) (kc := 0) (ks := 0)) hdp (st := [.int (nI ((q1 * 7) + c4)), .ref 20]) (Nat.le_of_ble_eq_true rfl) rfl (kr_P fun v37 hv37 => ?_) kx_I
              subst hv37
              have hq38 := gm28 (q3 * 7 + c4)
              refine J_iastF (pc := 74) dX8_swap_74 h20_30 (by omega) (by decide) (fun w39 hln39 hc39 hne39 => ?_)
              have hg39 : ∀ i, (up mv_38 ((q1 * 7) + c4) (mv_38 (q3 * 7 + c4))) i < 7 := up_b gm28 (by omega)
              have h19_39 := (hne39 19 (by decide)).trans h19_30
              have h21_39 := (hne39 21 (by decide)).trans h21_30
              have h22_39 := (hne39 22 (by decide)).trans h22_30
              have hb_39 := (hne39 _ (Nat.ne_of_gt (Nat.lt_of_lt_of_le (by decide) hb3_30))).trans hb_30
              have hF39 := hF27.st hln39 hne39 (Or.inl (by decide))
              refine J_aload_n (pc := 75) dX8_swap_75 rfl rfl rfl ?_
              refine J_get (pc := 76) (k := 1) dX8_swap_76 kC9 (by decide) ff_X8_13 h19_39 rfl ?_
              refine J_iload_n (pc := 79) dX8_swap_79 rfl rfl ?_
              refine J_bipush (pc := 80) (v := nI 7) dX8_swap_80 (by decide) ?_
              refine J_imulN (pc := 82) dX8_swap_82 ?_
              refine J_iload (pc := 83) dX8_swap_83 rfl ?_
              refine J_iaddN (pc := 85) dX8_swap_85 ?_
              refine J_iload (pc := 86) dX8_swap_86 rfl ?_
              refine J_iastF (pc := 88) dX8_swap_88 hc39 (by omega) (by decide) (fun w40 hln40 hc40 hne40 => ?_)
              have hg40 : ∀ i, (up (up mv_38 ((q1 * 7) + c4) (mv_38 (q3 * 7 + c4))) ((q3 * 7) + c4) (mv_38 (q1 * 7 + c4))) i < 7 := up_b hg39 (by omega)
              have h19_40 := (hne40 19 (by decide)).trans h19_39
              have h21_40 := (hne40 21 (by decide)).trans h21_39
              have h22_40 := (hne40 22 (by decide)).trans h22_39
              have hb_40 := (hne40 _ (Nat.ne_of_gt (Nat.lt_of_lt_of_le (by decide) hb3_30))).trans hb_39
              have hF40 := hF39.st hln40 hne40 (Or.inl (by decide))
              refine J_iincN (pc := 89) (b := 1) dX8_swap_89 rfl (by decide) (by decide) rfl ?_
              show J X mX8_swap d kc ks 92 [some (.ref 19), some (.int (nI q1)), some (.int (nI q3)), some (.int (nI 1)), some (.int (nI (c4 + 1))), some (.int (nI (mv_38 (q1 * 7 + c4))))] [] w40 _
              refine J_goto (pc := 92) (tgt := 38) dX8_swap_92 (by decide) ?_
              exact J_sub (L' := [some (.ref 19), some (.int (nI q1)), some (.int (nI q3)), some (.int (nI 1)), some (.int (nI (c4 + 1))), none]) ⟨rfl, ⟨rfl, ⟨rfl, ⟨rfl, ⟨rfl, trivial⟩⟩⟩⟩⟩ (ihlp38_24 w40 (up (up mv_38 ((q1 * 7) + c4) (mv_38 (q3 * 7 + c4))) ((q3 * 7) + c4) (mv_38 (q1 * 7 + c4))) (c4 + 1) ⟨h19_40, hc40, h21_40, h22_40, hb_40, hbl_30, hb3_30⟩ hF40 hg40 (by rw [hv38_0]; exact sw_s (by omega) (by omega) (by omega)) (by first | assumption | omega) (by omega))
        exact J_sub (L' := [some (.ref 19), some (.int (nI q1)), some (.int (nI q3)), some (.int (nI 1)), some (.int (nI 0)), none]) ⟨rfl, ⟨rfl, ⟨rfl, ⟨rfl, ⟨rfl, trivial⟩⟩⟩⟩⟩ (lp38_24 _ w5 mv 0 ⟨h19_5, h20_5, h21_5, h22_5, hbb_5, hbl_5, hb3_5⟩ hF5 gm (by exact (sw_0 _ _ _).symm) (by first | assumption | omega) (Nat.lt_succ_self _))
set_option maxRecDepth 100000 in
set_option maxHeartbeats 4000000 in
theorem c_X8_lay_ate {X : jX} (hs : X.1.stackTraces = false) {d : Nat} (hd : 2 ≤ d) {n : Nat} {mv rw nx : Nat → Nat} {b : Nat} {bt : List Int32} {kn en dn rf kk th : Int32} {w : List jC} (hR : RM n mv rw nx b bt kn en dn rf kk th w) (hn1 : 2 ≤ n) (hn2 : n ≤ 7) (gm : ∀ i, mv i < 7) (gr : ∀ i, rw i < 7) (gx : ∀ i, nx i < 7) (a : Int32) (c : Int32) (hy0 : PM n mv) (hy1 : KB n kn bt) {kc ks : Nat} : jMet X mX8_lay d kc ks [.ref 19, .int a, .int c] w (pJ (fun v w' => ∃ (mv' : Nat → Nat), ∃ (rw' : Nat → Nat), ∃ (kn' : Int32), ∃ (dn' : Int32), ∃ (th' : Int32), RM n mv' rw' nx b bt kn' en dn' rf kk th' w' ∧ FR b b w w' ∧ (∀ i, mv' i < 7) ∧ (∀ i, rw' i < 7) ∧ PM n mv' ∧ KB n kn' bt ∧ ((th' = nI 1 ∧ ¬ (isN a 6) ∧ mv' = mv ∧ kn' = kn ∧ dn' = dn) ∨ (th' = nI 2 ∧ (isN a 6) ∧ ¬ (isN c (fc n)) ∧ mv' = mv ∧ kn' = kn ∧ dn' = dn) ∨ (th' = nI 0 ∧ (∃ a1 b1 : Nat, a = nI a1 ∧ c = nI b1 ∧ a1 < 6 ∧ b1 < fc n ∧ ACT n mv a1 (rwF n b1) mv' ∧ v = nI (nuF mv (a1 * 7) n n)) ∧ kn' = (-1) ∧ dn' = (dn + nI 1))))) := by
  refine jMet_of hs (by decide +kernel) (Nat.le_of_ble_eq_true rfl) (L := [some (.ref 19), some (.int a), some (.int c), none]) rfl ?_
  have hdm : 1 ≤ d - 1 := by omega
  have hdp : d - 1 + 1 ≤ d := by omega
  have hfc := fc_7 hn2
  have hfp := fc_pos n
  obtain ⟨h19, h20, h21, h22, hbb, hbl, hb3⟩ := hR
  have hF : FR b b w w := FR.rf
  refine J_aload_n (pc := 0) dX8_lay_0 rfl rfl rfl ?_
  refine J_iload_n (pc := 1) dX8_lay_1 rfl rfl ?_
  refine J_callS0 (pc := 2) (M := mX8_lay) (as := [.int a]) dX8_lay_2 fw_X8_isCell fl_X8_108 fs_X8_isCell rfl (c_X8_isCell hs (d := d - 1) (Nat.le_trans (by decide) hdm) (w := w) a (kc := 0) (ks := 0)) hdp (st := [.ref 19]) (Nat.le_of_ble_eq_true rfl) rfl (kr_P fun v1 hv1 => ?_) kx_I
  rcases hv1 with ⟨rfl, hk1_0⟩ | ⟨q1, rfl, hk1_0, rfl⟩
  · refine J_if_neN (pc := 5) (tgt := 12) dX8_lay_5 (by decide) (by decide) (fun h => absurd h (by decide)) (fun _ => ?_)
    refine J_iconst (pc := 8) (v := nI 1) dX8_lay_8 (by decide) ?_
    refine J_goto (pc := 9) (tgt := 13) dX8_lay_9 (by decide) ?_
    refine J_iload_n (pc := 13) dX8_lay_13 rfl rfl ?_
    refine J_if_lt (pc := 14) (tgt := 25) dX8_lay_14 (by decide) (fun ht2 => ?_) (fun hf3 => ?_)
    · refine J_iconst (pc := 25) (v := nI 1) dX8_lay_25 (by decide) ?_
      refine J_goto (pc := 26) (tgt := 30) dX8_lay_26 (by decide) ?_
      refine J_callV0 (pc := 30) (M := mX8_lay) (as := [.int (nI 1), .int (nI 1)]) dX8_lay_30 fw_X8_isThrown fl_X8_35 fm_X8_isThrown fe_X8_isThrown h19 (by decide) rfl rfl rfl (c_X8_isThrown hs (d := d - 1) (Nat.le_trans (by decide) hdm) (w := w) (n := n) (mv := mv) (rw := rw) (nx := nx) (b := b) (bt := bt) (kn := kn) (en := en) (dn := dn) (rf := rf) (kk := kk) (th := th) ⟨h19, h20, h21, h22, hbb, hbl, hb3⟩ hn1 hn2 gm gr gx 1 1 (by first | assumption | omega) (by first | assumption | omega) (kc := 0) (ks := 0)) hdp (st := []) (Nat.le_of_ble_eq_true rfl) rfl (kr_I fun v4 w4 hv4 hw4 => ?_) kx_I
      obtain ⟨hR4, hFc4⟩ := hw4
      obtain ⟨h19_4, h20_4, h21_4, h22_4, hbb_4, hbl_4, hb3_4⟩ := hR4
      have hF4 := hF.tr hFc4
      subst hv4
      show J X mX8_lay d kc ks 33 [some (.ref 19), some (.int a), some (.int c), none] [.int (nI 1)] w4 _
      refine J_if_eqN (pc := 33) (tgt := 38) dX8_lay_33 (by decide) (by decide) (fun h => absurd h (by decide)) (fun _ => ?_)
      refine J_iconst (pc := 36) (v := nI 0) dX8_lay_36 (by decide) ?_
      exact J_iret (pc := 37) dX8_lay_37 rfl (⟨mv, rw, kn, dn, nI (tW 1 1), ⟨h19_4, h20_4, h21_4, h22_4, hbb_4, hbl_4, hb3_4⟩, hF4, gm, gr, (by first | assumption | exact PM_st hn2 (by assumption) (by assumption) (by assumption)), (by first | assumption | exact Or.inl rfl), (by first | exact Or.inl ⟨rfl, fun g => (by first | exact ne_isN (by assumption) g | exact ne_isN (by assumption) g.1 | exact ne_isN (by assumption) g.2 | exact ne_isN (by assumption) g.2.1 | exact ne_isN (by assumption) g.2.2 | exact ne_isN (by assumption) g.2.2.1 | exact ne_isN (by assumption) g.2.2.2), rfl, rfl, rfl⟩ | exact Or.inr (Or.inl ⟨rfl, isN_of (by first | assumption | omega), (by first | exact fun g => ne_isN (no_lt (by omega) (by assumption)) g | exact fun g => ne_isN (no_ge (by omega) (by assumption)) g | exact fun g => ne_isN (no_ge (by omega) (Int32.not_lt.mpr (by assumption))) g), rfl, rfl, rfl⟩) | exact Or.inr (Or.inr (⟨rfl, ⟨_, _, rfl, rfl, by omega, by omega, ACT_of hn2 hgt (fun p hp => hrow p hp), rfl⟩, rfl, rfl⟩)))⟩)
    · refine J_iload_n (pc := 17) dX8_lay_17 rfl rfl ?_
      refine J_aload_n (pc := 18) dX8_lay_18 rfl rfl rfl ?_
      refine J_callV0 (pc := 19) (M := mX8_lay) (as := []) dX8_lay_19 fw_X8_all fl_X8_65 fm_X8_all fe_X8_all h19 (by decide) rfl rfl rfl (c_X8_all hs (d := d - 1) (Nat.le_trans (by decide) hdm) (w := w) (n := n) (mv := mv) (rw := rw) (nx := nx) (b := b) (bt := bt) (kn := kn) (en := en) (dn := dn) (rf := rf) (kk := kk) (th := th) ⟨h19, h20, h21, h22, hbb, hbl, hb3⟩ hn1 hn2 gm gr gx  (kc := 0) (ks := 0)) hdp (st := [.int c, .int (nI 1), .ref 19]) (Nat.le_of_ble_eq_true rfl) rfl (kr_P fun v5 hv5 => ?_) kx_I
      subst hv5
      refine J_icmp_lt (pc := 22) (tgt := 29) dX8_lay_22 (by decide) (fun ht6 => ?_) (fun hf7 => ?_)
      · refine J_iconst (pc := 29) (v := nI 0) dX8_lay_29 (by decide) ?_
        refine J_callV0 (pc := 30) (M := mX8_lay) (as := [.int (nI 1), .int (nI 0)]) dX8_lay_30 fw_X8_isThrown fl_X8_35 fm_X8_isThrown fe_X8_isThrown h19 (by decide) rfl rfl rfl (c_X8_isThrown hs (d := d - 1) (Nat.le_trans (by decide) hdm) (w := w) (n := n) (mv := mv) (rw := rw) (nx := nx) (b := b) (bt := bt) (kn := kn) (en := en) (dn := dn) (rf := rf) (kk := kk) (th := th) ⟨h19, h20, h21, h22, hbb, hbl, hb3⟩ hn1 hn2 gm gr gx 1 0 (by first | assumption | omega) (by first | assumption | omega) (kc := 0) (ks := 0)) hdp (st := []) (Nat.le_of_ble_eq_true rfl) rfl (kr_I fun v8 w8 hv8 hw8 => ?_) kx_I
        obtain ⟨hR8, hFc8⟩ := hw8
        obtain ⟨h19_8, h20_8, h21_8, h22_8, hbb_8, hbl_8, hb3_8⟩ := hR8
        have hF8 := hF.tr hFc8
        subst hv8
        show J X mX8_lay d kc ks 33 [some (.ref 19), some (.int a), some (.int c), none] [.int (nI 1)] w8 _
        refine J_if_eqN (pc := 33) (tgt := 38) dX8_lay_33 (by decide) (by decide) (fun h => absurd h (by decide)) (fun _ => ?_)
        refine J_iconst (pc := 36) (v := nI 0) dX8_lay_36 (by decide) ?_
        exact J_iret (pc := 37) dX8_lay_37 rfl (⟨mv, rw, kn, dn, nI (tW 1 0), ⟨h19_8, h20_8, h21_8, h22_8, hbb_8, hbl_8, hb3_8⟩, hF8, gm, gr, (by first | assumption | exact PM_st hn2 (by assumption) (by assumption) (by assumption)), (by first | assumption | exact Or.inl rfl), (by first | exact Or.inl ⟨rfl, fun g => (by first | exact ne_isN (by assumption) g | exact ne_isN (by assumption) g.1 | exact ne_isN (by assumption) g.2 | exact ne_isN (by assumption) g.2.1 | exact ne_isN (by assumption) g.2.2 | exact ne_isN (by assumption) g.2.2.1 | exact ne_isN (by assumption) g.2.2.2), rfl, rfl, rfl⟩ | exact Or.inr (Or.inl ⟨rfl, isN_of (by first | assumption | omega), (by first | exact fun g => ne_isN (no_lt (by omega) (by assumption)) g | exact fun g => ne_isN (no_ge (by omega) (by assumption)) g | exact fun g => ne_isN (no_ge (by omega) (Int32.not_lt.mpr (by assumption))) g), rfl, rfl, rfl⟩) | exact Or.inr (Or.inr (⟨rfl, ⟨_, _, rfl, rfl, by omega, by omega, ACT_of hn2 hgt (fun p hp => hrow p hp), rfl⟩, rfl, rfl⟩)))⟩)
      · refine J_iconst (pc := 25) (v := nI 1) dX8_lay_25 (by decide) ?_
        refine J_goto (pc := 26) (tgt := 30) dX8_lay_26 (by decide) ?_
        refine J_callV0 (pc := 30) (M := mX8_lay) (as := [.int (nI 1), .int (nI 1)]) dX8_lay_30 fw_X8_isThrown fl_X8_35 fm_X8_isThrown fe_X8_isThrown h19 (by decide) rfl rfl rfl (c_X8_isThrown hs (d := d - 1) (Nat.le_trans (by decide) hdm) (w := w) (n := n) (mv := mv) (rw := rw) (nx := nx) (b := b) (bt := bt) (kn := kn) (en := en) (dn := dn) (rf := rf) (kk := kk) (th := th) ⟨h19, h20, h21, h22, hbb, hbl, hb3⟩ hn1 hn2 gm gr gx 1 1 (by first | assumption | omega) (by first | assumption | omega) (kc := 0) (ks := 0)) hdp (st := []) (Nat.le_of_ble_eq_true rfl) rfl (kr_I fun v9 w9 hv9 hw9 => ?_) kx_I
        obtain ⟨hR9, hFc9⟩ := hw9
        obtain ⟨h19_9, h20_9, h21_9, h22_9, hbb_9, hbl_9, hb3_9⟩ := hR9
        have hF9 := hF.tr hFc9
        subst hv9
        show J X mX8_lay d kc ks 33 [some (.ref 19), some (.int a), some (.int c), none] [.int (nI 1)] w9 _
        refine J_if_eqN (pc := 33) (tgt := 38) dX8_lay_33 (by decide) (by decide) (fun h => absurd h (by decide)) (fun _ => ?_)
        refine J_iconst (pc := 36) (v := nI 0) dX8_lay_36 (by decide) ?_
        exact J_iret (pc := 37) dX8_lay_37 rfl (⟨mv, rw, kn, dn, nI (tW 1 1), ⟨h19_9, h20_9, h21_9, h22_9, hbb_9, hbl_9, hb3_9⟩, hF9, gm, gr, (by first | assumption | exact PM_st hn2 (by assumption) (by assumption) (by assumption)), (by first | assumption | exact Or.inl rfl), (by first | exact Or.inl ⟨rfl, fun g => (by first | exact ne_isN (by assumption) g | exact ne_isN (by assumption) g.1 | exact ne_isN (by assumption) g.2 | exact ne_isN (by assumption) g.2.1 | exact ne_isN (by assumption) g.2.2 | exact ne_isN (by assumption) g.2.2.1 | exact ne_isN (by assumption) g.2.2.2), rfl, rfl, rfl⟩ | exact Or.inr (Or.inl ⟨rfl, isN_of (by first | assumption | omega), (by first | exact fun g => ne_isN (no_lt (by omega) (by assumption)) g | exact fun g => ne_isN (no_ge (by omega) (by assumption)) g | exact fun g => ne_isN (no_ge (by omega) (Int32.not_lt.mpr (by assumption))) g), rfl, rfl, rfl⟩) | exact Or.inr (Or.inr (⟨rfl, ⟨_, _, rfl, rfl, by omega, by omega, ACT_of hn2 hgt (fun p hp => hrow p hp), rfl⟩, rfl, rfl⟩)))⟩)
  · refine J_if_neN (pc := 5) (tgt := 12) dX8_lay_5 (by decide) (by decide) (fun _ => ?_) (fun h => absurd h (by decide))
    refine J_iconst (pc := 12) (v := nI 0) dX8_lay_12 (by decide) ?_
    refine J_iload_n (pc := 13) dX8_lay_13 rfl rfl ?_
    refine J_if_lt (pc := 14) (tgt := 25) dX8_lay_14 (by decide) (fun ht10 => ?_) (fun hf11 => ?_)
    · refine J_iconst (pc := 25) (v := nI 1) dX8_lay_25 (by decide) ?_
      refine J_goto (pc := 26) (tgt := 30) dX8_lay_26 (by decide) ?_
      refine J_callV0 (pc := 30) (M := mX8_lay) (as := [.int (nI 0), .int (nI 1)]) dX8_lay_30 fw_X8_isThrown fl_X8_35 fm_X8_isThrown fe_X8_isThrown h19 (by decide) rfl rfl rfl (c_X8_isThrown hs (d := d - 1) (Nat.le_trans (by decide) hdm) (w := w) (n := n) (mv := mv) (rw := rw) (nx := nx) (b := b) (bt := bt) (kn := kn) (en := en) (dn := dn) (rf := rf) (kk := kk) (th := th) ⟨h19, h20, h21, h22, hbb, hbl, hb3⟩ hn1 hn2 gm gr gx 0 1 (by first | assumption | omega) (by first | assumption | omega) (kc := 0) (ks := 0)) hdp (st := []) (Nat.le_of_ble_eq_true rfl) rfl (kr_I fun v12 w12 hv12 hw12 => ?_) kx_I
      obtain ⟨hR12, hFc12⟩ := hw12
      obtain ⟨h19_12, h20_12, h21_12, h22_12, hbb_12, hbl_12, hb3_12⟩ := hR12
      have hF12 := hF.tr hFc12
      subst hv12
      show J X mX8_lay d kc ks 33 [some (.ref 19), some (.int (nI q1)), some (.int c), none] [.int (nI 1)] w12 _
      refine J_if_eqN (pc := 33) (tgt := 38) dX8_lay_33 (by decide) (by decide) (fun h => absurd h (by decide)) (fun _ => ?_)
      refine J_iconst (pc := 36) (v := nI 0) dX8_lay_36 (by decide) ?_
      exact J_iret (pc := 37) dX8_lay_37 rfl (⟨mv, rw, kn, dn, nI (tW 0 1), ⟨h19_12, h20_12, h21_12, h22_12, hbb_12, hbl_12, hb3_12⟩, hF12, gm, gr, (by first | assumption | exact PM_st hn2 (by assumption) (by assumption) (by assumption)), (by first | assumption | exact Or.inl rfl), (by first | exact Or.inl ⟨rfl, fun g => (by first | exact ne_isN (by assumption) g | exact ne_isN (by assumption) g.1 | exact ne_isN (by assumption) g.2 | exact ne_isN (by assumption) g.2.1 | exact ne_isN (by assumption) g.2.2 | exact ne_isN (by assumption) g.2.2.1 | exact ne_isN (by assumption) g.2.2.2), rfl, rfl, rfl⟩ | exact Or.inr (Or.inl ⟨rfl, isN_of (by first | assumption | omega), (by first | exact fun g => ne_isN (no_lt (by omega) (by assumption)) g | exact fun g => ne_isN (no_ge (by omega) (by assumption)) g | exact fun g => ne_isN (no_ge (by omega) (Int32.not_lt.mpr (by assumption))) g), rfl, rfl, rfl⟩) | exact Or.inr (Or.inr (⟨rfl, ⟨_, _, rfl, rfl, by omega, by omega, ACT_of hn2 hgt (fun p hp => hrow p hp), rfl⟩, rfl, rfl⟩)))⟩)
    · refine J_iload_n (pc := 17) dX8_lay_17 rfl rfl ?_
      refine J_aload_n (pc := 18) dX8_lay_18 rfl rfl rfl ?_
      refine J_callV0 (pc := 19) (M := mX8_lay) (as := []) dX8_lay_19 fw_X8_all fl_X8_65 fm_X8_all fe_X8_all h19 (by decide) rfl rfl rfl (c_X8_all hs (d := d - 1) (Nat.le_trans (by decide) hdm) (w := w) (n := n) (mv := mv) (rw := rw) (nx := nx) (b := b) (bt := bt) (kn := kn) (en := en) (dn := dn) (rf := rf) (kk := kk) (th := th) ⟨h19, h20, h21, h22, hbb, hbl, hb3⟩ hn1 hn2 gm gr gx  (kc := 0) (ks := 0)) hdp (st := [.int c, .int (nI 0), .ref 19]) (Nat.le_of_ble_eq_true rfl) rfl (kr_P fun v13 hv13 => ?_) kx_I
      subst hv13
      refine J_icmp_lt (pc := 22) (tgt := 29) dX8_lay_22 (by decide) (fun ht14 => ?_) (fun hf15 => ?_)
      · refine J_iconst (pc := 29) (v := nI 0) dX8_lay_29 (by decide) ?_
        refine J_callV0 (pc := 30) (M := mX8_lay) (as := [.int (nI 0), .int (nI 0)]) dX8_lay_30 fw_X8_isThrown fl_X8_35 fm_X8_isThrown fe_X8_isThrown h19 (by decide) rfl rfl rfl (c_X8_isThrown hs (d := d - 1) (Nat.le_trans (by decide) hdm) (w := w) (n := n) (mv := mv) (rw := rw) (nx := nx) (b := b) (bt := bt) (kn := kn) (en := en) (dn := dn) (rf := rf) (kk := kk) (th := th) ⟨h19, h20, h21, h22, hbb, hbl, hb3⟩ hn1 hn2 gm gr gx 0 0 (by first | assumption | omega) (by first | assumption | omega) (kc := 0) (ks := 0)) hdp (st := []) (Nat.le_of_ble_eq_true rfl) rfl (kr_I fun v16 w16 hv16 hw16 => ?_) kx_I
        obtain ⟨hR16, hFc16⟩ := hw16
        obtain ⟨h19_16, h20_16, h21_16, h22_16, hbb_16, hbl_16, hb3_16⟩ := hR16
        have hF16 := hF.tr hFc16
        subst hv16
        show J X mX8_lay d kc ks 33 [some (.ref 19), some (.int (nI q1)), some (.int c), none] [.int (nI 0)] w16 _
        refine J_if_eqN (pc := 33) (tgt := 38) dX8_lay_33 (by decide) (by decide) (fun _ => ?_) (fun h => absurd h (by decide))
        obtain ⟨k17, hk17, rfl⟩ := nI_k2 ht14 (by omega) hf11
        refine J_aload_n (pc := 38) dX8_lay_38 rfl rfl rfl ?_
        refine J_aload_n (pc := 39) dX8_lay_39 rfl rfl rfl ?_
        refine J_get (pc := 40) (k := 1) dX8_lay_40 kC9 (by decide) ff_X8_13 h19_16 rfl ?_
        refine J_iload_n (pc := 43) dX8_lay_43 rfl rfl ?_
        refine J_bipush (pc := 44) (v := nI 7) dX8_lay_44 (by decide) ?_
        refine J_imulN (pc := 46) dX8_lay_46 ?_
        refine J_callV0 (pc := 47) (M := mX8_lay) (as := [.ref 20, .int (nI (q1 * 7))]) dX8_lay_47 fw_X8_numberOf fl_X8_45 fm_X8_numberOf fe_X8_numberOf h19_16 (by decide) rfl rfl rfl (c_X8_numberOf_at20 hs (d := d - 1) (Nat.le_trans (by decide) hdm) (w := w16) (n := n) (mv := mv) (rw := rw) (nx := nx) (b := b) (bt := bt) (kn := kn) (en := en) (dn := dn) (rf := rf) (kk := kk) (th := nI (tW 0 0)) ⟨h19_16, h20_16, h21_16, h22_16, hbb_16, hbl_16, hb3_16⟩ hn1 hn2 gm gr gx (q1 * 7) (by first | assumption | omega) (kc := 0) (ks := 0)) hdp (st := []) (Nat.le_of_ble_eq_true rfl) rfl (kr_P fun v18 hv18 => ?_) kx_I
        subst hv18
        have hq19 := nuF_b mv (q1 * 7) n
        refine J_istore_n (pc := 50) dX8_lay_50 rfl (by decide) rfl ?_
        show J X mX8_lay d kc ks 51 [some (.ref 19), some (.int (nI q1)), some (.int (nI k17)), some (.int (nI (nuF mv (q1 * 7) n n)))] [] w16 _
        refine J_aload_n (pc := 51) dX8_lay_51 rfl rfl rfl ?_
        refine J_iload_n (pc := 52) dX8_lay_52 rfl rfl ?_
        refine J_aload_n (pc := 53) dX8_lay_53 rfl rfl rfl ?_
        refine J_get (pc := 54) (k := 2) dX8_lay_54 kC9 (by decide) ff_X8_17 h19_16 rfl ?_
        refine J_callV0 (pc := 57) (M := mX8_lay) (as := [.int (nI k17), .ref 21]) dX8_lay_57 fw_X8_rowOf fl_X8_78 fm_X8_rowOf fe_X8_rowOf h19_16 (by decide) rfl rfl rfl (c_X8_rowOf hs (d := d - 1) (Nat.le_trans (by decide) hdm) (w := w16) (n := n) (mv := mv) (rw := rw) (nx := nx) (b := b) (bt := bt) (kn := kn) (en := en) (dn := dn) (rf := rf) (kk := kk) (th := nI (tW 0 0)) ⟨h19_16, h20_16, h21_16, h22_16, hbb_16, hbl_16, hb3_16⟩ hn1 hn2 gm gr gx k17 (by first | assumption | omega) (kc := 0) (ks := 0)) hdp (st := []) (Nat.le_of_ble_eq_true rfl) rfl (kr_V fun w20 hw20 => ?_) kx_V
        obtain ⟨rw20, hR20, hFc20, hgrw20, hp20_0⟩ := hw20
        obtain ⟨h19_20, h20_20, h21_20, h22_20, hbb_20, hbl_20, hb3_20⟩ := hR20
        have hF20 := hF16.tr hFc20
        have hPr := Pn_row (by omega) hp20_0
        have hrow := hp20_0
        refine J_aload_n (pc := 60) dX8_lay_60 rfl rfl rfl ?_
        refine J_iload_n (pc := 61) dX8_lay_61 rfl rfl ?_
        refine J_aload_n (pc := 62) dX8_lay_62 rfl rfl rfl ?_
        refine J_get (pc := 63) (k := 2) dX8_lay_63 kC9 (by decide) ff_X8_17 h19_20 rfl ?_
        refine J_callV0 (pc := 66) (M := mX8_lay) (as := [.int (nI q1), .ref 21]) dX8_lay_66 fw_X8_get fl_X8_111 fm_X8_get fe_X8_get h19_20 (by decide) rfl rfl rfl (c_X8_get_at21 hs (d := d - 1) (Nat.le_trans (by decide) hdm) (w := w20) (n := n) (mv := mv) (rw := rw20) (nx := nx) (b := b) (bt := bt) (kn := kn) (en := en) (dn := dn) (rf := rf) (kk := kk) (th := nI (tW 0 0)) ⟨h19_20, h20_20, h21_20, h22_20, hbb_20, hbl_20, hb3_20⟩ hn1 hn2 gm hgrw20 gx q1 (by first | assumption | omega) (kc := 0) (ks := 0)) hdp (st := []) (Nat.le_of_ble_eq_true rfl) rfl (kr_I fun v21 w21 hv21 hw21 => ?_) kx_I
        obtain ⟨mv21, hR21, hFc21, hgmv21, hp21_0⟩ := hw21
        obtain ⟨h19_21, h20_21, h21_21, h22_21, hbb_21, hbl_21, hb3_21⟩ := hR21
        have hF21 := hF20.tr hFc21
        subst hv21
        have hgt := hp21_0
        refine J_pop (pc := 69) dX8_lay_69 rfl ?_
        refine J_iload_n (pc := 70) dX8_lay_70 rfl rfl ?_
        exact J_iret (pc := 71) dX8_lay_71 rfl (⟨mv21, rw20, (-1), (dn + nI 1), nI (tW 0 0), ⟨h19_21, h20_21, h21_21, h22_21, hbb_21, hbl_21, hb3_21⟩, hF21, hgmv21, hgrw20, (by first | assumption | exact PM_st hn2 (by assumption) (by assumption) (by assumption)), (by first | assumption | exact Or.inl rfl), (by first | exact Or.inl ⟨rfl, fun g => (by first | exact ne_isN (by assumption) g | exact ne_isN (by assumption) g.1 | exact ne_isN (by assumption) g.2 | exact ne_isN (by assumption) g.2.1 | exact ne_isN (by assumption) g.2.2 | exact ne_isN (by assumption) g.2.2.1 | exact ne_isN (by assumption) g.2.2.2), rfl, rfl, rfl⟩ | exact Or.inr (Or.inl ⟨rfl, isN_of (by first | assumption | omega), (by first | exact fun g => ne_isN (no_lt (by omega) (by assumption)) g | exact fun g => ne_isN (no_ge (by omega) (by assumption)) g | exact fun g => ne_isN (no_ge (by omega) (Int32.not_lt.mpr (by assumption))) g), rfl, rfl, rfl⟩) | exact Or.inr (Or.inr (⟨rfl, ⟨_, _, rfl, rfl, by omega, by omega, ACT_of hn2 hgt (fun p hp => hrow p hp), rfl⟩, rfl, rfl⟩)))⟩)
      · refine J_iconst (pc := 25) (v := nI 1) dX8_lay_25 (by decide) ?_
        refine J_goto (pc := 26) (tgt := 30) dX8_lay_26 (by decide) ?_
        refine J_callV0 (pc := 30) (M := mX8_lay) (as := [.int (nI 0), .int (nI 1)]) dX8_lay_30 fw_X8_isThrown fl_X8_35 fm_X8_isThrown fe_X8_isThrown h19 (by decide) rfl rfl rfl (c_X8_isThrown hs (d := d - 1) (Nat.le_trans (by decide) hdm) (w := w) (n := n) (mv := mv) (rw := rw) (nx := nx) (b := b) (bt := bt) (kn := kn) (en := en) (dn := dn) (rf := rf) (kk := kk) (th := th) ⟨h19, h20, h21, h22, hbb, hbl, hb3⟩ hn1 hn2 gm gr gx 0 1 (by first | assumption | omega) (by first | assumption | omega) (kc := 0) (ks := 0)) hdp (st := []) (Nat.le_of_ble_eq_true rfl) rfl (kr_I fun v22 w22 hv22 hw22 => ?_) kx_I
        obtain ⟨hR22, hFc22⟩ := hw22
        obtain ⟨h19_22, h20_22, h21_22, h22_22, hbb_22, hbl_22, hb3_22⟩ := hR22
        have hF22 := hF.tr hFc22
        subst hv22
        show J X mX8_lay d kc ks 33 [some (.ref 19), some (.int (nI q1)), some (.int c), none] [.int (nI 1)] w22 _
        refine J_if_eqN (pc := 33) (tgt := 38) dX8_lay_33 (by decide) (by decide) (fun h => absurd h (by decide)) (fun _ => ?_)
        refine J_iconst (pc := 36) (v := nI 0) dX8_lay_36 (by decide) ?_
        exact J_iret (pc := 37) dX8_lay_37 rfl (⟨mv, rw, kn, dn, nI (tW 0 1), ⟨h19_22, h20_22, h21_22, h22_22, hbb_22, hbl_22, hb3_22⟩, hF22, gm, gr, (by first | assumption | exact PM_st hn2 (by assumption) (by assumption) (by assumption)), (by first | assumption | exact Or.inl rfl), (by first | exact Or.inl ⟨rfl, fun g => (by first | exact ne_isN (by assumption) g | exact ne_isN (by assumption) g.1 | exact ne_isN (by assumption) g.2 | exact ne_isN (by assumption) g.2.1 | exact ne_isN (by assumption) g.2.2 | exact ne_isN (by assumption) g.2.2.1 | exact ne_isN (by assumption) g.2.2.2), rfl, rfl, rfl⟩ | exact Or.inr (Or.inl ⟨rfl, isN_of (by first | assumption | omega), (by first | exact fun g => ne_isN (no_lt (by omega) (by assumption)) g | exact fun g => ne_isN (no_ge (by omega) (by assumption)) g | exact fun g => ne_isN (no_ge (by omega) (Int32.not_lt.mpr (by assumption))) g), rfl, rfl, rfl⟩) | exact Or.inr (Or.inr (⟨rfl, ⟨_, _, rfl, rfl, by omega, by omega, ACT_of hn2 hgt (fun p hp => hrow p hp), rfl⟩, rfl, rfl⟩)))⟩)
set_option maxRecDepth 100000 in
set_option maxHeartbeats 4000000 in
theorem c_X8_points_ate {X : jX} (hs : X.1.stackTraces = false) {d : Nat} (hd : 2 ≤ d) {n : Nat} {mv rw nx : Nat → Nat} {b : Nat} {bt : List Int32} {kn en dn rf kk th : Int32} {w : List jC} (hR : RM n mv rw nx b bt kn en dn rf kk th w) (hn1 : 2 ≤ n) (hn2 : n ≤ 7) (gm : ∀ i, mv i < 7) (gr : ∀ i, rw i < 7) (gx : ∀ i, nx i < 7) (a : Int32) (hy0 : PM n mv) (hy1 : KB n kn bt) {kc ks : Nat} : jMet X mX8_points d kc ks [.ref 19, .int a] w (pJ (fun v w' => ∃ (n' : Nat), ∃ (mv' : Nat → Nat), ∃ (kn' : Int32), ∃ (dn' : Int32), ∃ (th' : Int32), RM n' mv' rw nx b bt kn' en dn' rf kk th' w' ∧ FR b b w w' ∧ (∀ i, mv' i < 7) ∧ 2 ≤ n' ∧ n' ≤ 7 ∧ PM n' mv' ∧ KB n' kn' bt ∧ ((th' = nI 1 ∧ (∀ k : Nat, 2 ≤ k → k ≤ 7 → a ≠ nI k) ∧ n' = n ∧ mv' = mv ∧ kn' = kn ∧ dn' = dn) ∨ (th' = nI 0 ∧ (∃ k : Nat, 2 ≤ k ∧ k ≤ 7 ∧ a = nI k ∧ n' = k ∧ v = nI n) ∧ (∀ k p, k < 6 → p < n' → mv' (k * 7 + p) = p) ∧ kn' = (-1) ∧ dn' = (dn + nI 1))))) := by
  refine jMet_of hs (by decide +kernel) (Nat.le_of_ble_eq_true rfl) (L := [some (.ref 19), some (.int a), none]) rfl ?_
  have hdm : 1 ≤ d - 1 := by omega
  have hdp : d - 1 + 1 ≤ d := by omega
  have hfc := fc_7 hn2
  have hfp := fc_pos n
  obtain ⟨h19, h20, h21, h22, hbb, hbl, hb3⟩ := hR
  have hF : FR b b w w := FR.rf
  refine J_aload_n (pc := 0) dX8_points_0 rfl rfl rfl ?_
  refine J_iload_n (pc := 1) dX8_points_1 rfl rfl ?_
  refine J_iconst (pc := 2) (v := nI 2) dX8_points_2 (by decide) ?_
  refine J_icmp_lt (pc := 3) (tgt := 12) dX8_points_3 (by decide) (fun ht1 => ?_) (fun hf2 => ?_)
  · refine J_iconst (pc := 12) (v := nI 1) dX8_points_12 (by decide) ?_
    refine J_goto (pc := 13) (tgt := 17) dX8_points_13 (by decide) ?_
    refine J_callV0 (pc := 17) (M := mX8_points) (as := [.int (nI 1)]) dX8_points_17 fw_X8_isThrown_ fl_X8_105 fm_X8_isThrown_ fe_X8_isThrown_ h19 (by decide) rfl rfl rfl (c_X8_isThrown_ hs (d := d - 1) (Nat.le_trans (by decide) hdm) (w := w) (n := n) (mv := mv) (rw := rw) (nx := nx) (b := b) (bt := bt) (kn := kn) (en := en) (dn := dn) (rf := rf) (kk := kk) (th := th) ⟨h19, h20, h21, h22, hbb, hbl, hb3⟩ hn1 hn2 gm gr gx 1 (by first | assumption | omega) (kc := 0) (ks := 0)) hdp (st := []) (Nat.le_of_ble_eq_true rfl) rfl (kr_I fun v3 w3 hv3 hw3 => ?_) kx_I
    obtain ⟨hR3, hFc3⟩ := hw3
    obtain ⟨h19_3, h20_3, h21_3, h22_3, hbb_3, hbl_3, hb3_3⟩ := hR3
    have hF3 := hF.tr hFc3
    subst hv3
    show J X mX8_points d kc ks 20 [some (.ref 19), some (.int a), none] [.int (nI 1)] w3 _
    refine J_if_eqN (pc := 20) (tgt := 25) dX8_points_20 (by decide) (by decide) (fun h => absurd h (by decide)) (fun _ => ?_)
    refine J_iconst (pc := 23) (v := nI 0) dX8_points_23 (by decide) ?_
    exact J_iret (pc := 24) dX8_points_24 rfl (⟨n, mv, kn, dn, nI (tW 1 0), ⟨h19_3, h20_3, h21_3, h22_3, hbb_3, hbl_3, hb3_3⟩, hF3, gm, (by omega), (by omega), (by first | assumption | exact PM_id (by omega) (by assumption)), (by first | assumption | exact Or.inl rfl), (by first | exact Or.inl ⟨rfl, by intro k h1 h2 e; subst e; first | exact absurd (by assumption) (nI_nlt h1 (by omega)) | exact absurd (by assumption) (nI_nlt h2 (by decide)) | exact absurd (nI_le h2 (by decide)) (by assumption) | exact absurd (nI_le h1 (by omega)) (by assumption), rfl, rfl, rfl, rfl⟩ | exact Or.inr ⟨rfl, ⟨_, by omega, by omega, rfl, rfl, rfl⟩, hstl, rfl, rfl⟩)⟩)
  · refine J_iload_n (pc := 6) dX8_points_6 rfl rfl ?_
    refine J_bipush (pc := 7) (v := nI 7) dX8_points_7 (by decide) ?_
    refine J_icmp_le (pc := 9) (tgt := 16) dX8_points_9 (by decide) (fun ht4 => ?_) (fun hf5 => ?_)
    · refine J_iconst (pc := 16) (v := nI 0) dX8_points_16 (by decide) ?_
      refine J_callV0 (pc := 17) (M := mX8_points) (as := [.int (nI 0)]) dX8_points_17 fw_X8_isThrown_ fl_X8_105 fm_X8_isThrown_ fe_X8_isThrown_ h19 (by decide) rfl rfl rfl (c_X8_isThrown_ hs (d := d - 1) (Nat.le_trans (by decide) hdm) (w := w) (n := n) (mv := mv) (rw := rw) (nx := nx) (b := b) (bt := bt) (kn := kn) (en := en) (dn := dn) (rf := rf) (kk := kk) (th := th) ⟨h19, h20, h21, h22, hbb, hbl, hb3⟩ hn1 hn2 gm gr gx 0 (by first | assumption | omega) (kc := 0) (ks := 0)) hdp (st := []) (Nat.le_of_ble_eq_true rfl) rfl (kr_I fun v6 w6 hv6 hw6 => ?_) kx_I
      obtain ⟨hR6, hFc6⟩ := hw6
      obtain ⟨h19_6, h20_6, h21_6, h22_6, hbb_6, hbl_6, hb3_6⟩ := hR6
      have hF6 := hF.tr hFc6
      subst hv6
      show J X mX8_points d kc ks 20 [some (.ref 19), some (.int a), none] [.int (nI 0)] w6 _
      refine J_if_eqN (pc := 20) (tgt := 25) dX8_points_20 (by decide) (by decide) (fun _ => ?_) (fun h => absurd h (by decide))
      obtain ⟨k7, hk7a, hk7b, rfl⟩ := nI_btw (Int32.not_lt.mp (by assumption)) (by assumption) (by omega) (by omega)
      refine J_aload_n (pc := 25) dX8_points_25 rfl rfl rfl ?_
      refine J_get (pc := 26) (k := 0) dX8_points_26 kC9 (by decide) ff_X8_7 h19_6 rfl ?_
      refine J_istore_n (pc := 29) dX8_points_29 rfl (by decide) rfl ?_
      show J X mX8_points d kc ks 30 [some (.ref 19), some (.int (nI k7)), some (.int (nI n))] [] w6 _
      refine J_aload_n (pc := 30) dX8_points_30 rfl rfl rfl ?_
      refine J_iload_n (pc := 31) dX8_points_31 rfl rfl ?_
      refine J_putW (pc := 32) (k := 0) dX8_points_32 kC9 (by decide) ff_X8_7 (Or.inl rfl) ⟨rfl, rfl⟩ h19_6 (by show 0 < 11; decide) (fun w8 hln8 hw8 hne8 => ?_)
      have h19_8 : w8[19]? = some (.inr (9, [.int (nI k7), .ref 20, .ref 21, .ref 22, .ref b, .int kn, .int en, .int dn, .int rf, .int kk, .int (nI (tW 0 0))])) := hw8
      have h20_8 := (hne8 20 (by decide)).trans h20_6
      have h21_8 := (hne8 21 (by decide)).trans h21_6
      have h22_8 := (hne8 22 (by decide)).trans h22_6
      have hb_8 := (hne8 _ (Nat.ne_of_gt (Nat.lt_of_lt_of_le (by decide) hb3_6))).trans hbb_6
      have hF8 := hF6.st hln8 hne8 (Or.inl (by decide))
      refine J_aload_n (pc := 35) dX8_points_35 rfl rfl rfl ?_
      refine J_callV0 (pc := 36) (M := mX8_points) (as := []) dX8_points_36 fw_X8_still fl_X8_29 fm_X8_still fe_X8_still h19_8 (by decide) rfl rfl rfl (c_X8_still hs (d := d - 1) (Nat.le_trans (by decide) hdm) (w := w8) (n := k7) (mv := mv) (rw := rw) (nx := nx) (b := b) (bt := bt) (kn := kn) (en := en) (dn := dn) (rf := rf) (kk := kk) (th := nI (tW 0 0)) ⟨h19_8, h20_8, h21_8, h22_8, hb_8, hbl_6, hb3_6⟩ (by omega) (by omega) gm gr gx  (kc := 0) (ks := 0)) hdp (st := []) (Nat.le_of_ble_eq_true rfl) rfl (kr_V fun w9 hw9 => ?_) kx_V
      obtain ⟨mv9, hR9, hFc9, hgmv9, hp9_0⟩ := hw9
      obtain ⟨h19_9, h20_9, h21_9, h22_9, hbb_9, hbl_9, hb3_9⟩ := hR9
      have hF9 := hF8.tr hFc9
      have hstl := hp9_0
      refine J_aload_n (pc := 39) dX8_points_39 rfl rfl rfl ?_
      refine J_iload_n (pc := 40) dX8_points_40 rfl rfl ?_
      refine J_callV0 (pc := 41) (M := mX8_points) (as := [.int (nI n)]) dX8_points_41 fw_X8_told fl_X8_49 fm_X8_told fe_X8_told h19_9 (by decide) rfl rfl rfl (c_X8_told hs (d := d - 1) (Nat.le_trans (by decide) hdm) (w := w9) (n := k7) (mv := mv9) (rw := rw) (nx := nx) (b := b) (bt := bt) (kn := (-1)) (en := en) (dn := dn) (rf := rf) (kk := kk) (th := nI (tW 0 0)) ⟨h19_9, h20_9, h21_9, h22_9, hbb_9, hbl_9, hb3_9⟩ (by omega) (by omega) hgmv9 gr gx (nI n) (kc := 0) (ks := 0)) hdp (st := []) (Nat.le_of_ble_eq_true rfl) rfl (kr_I fun v10 w10 hv10 hw10 => ?_) kx_I
      obtain ⟨hR10, hFc10⟩ := hw10
      obtain ⟨h19_10, h20_10, h21_10, h22_10, hbb_10, hbl_10, hb3_10⟩ := hR10
      have hF10 := hF9.tr hFc10
      subst hv10
      exact J_iret (pc := 44) dX8_points_44 rfl (⟨k7, mv9, (-1), (dn + nI 1), nI (tW 0 0), ⟨h19_10, h20_10, h21_10, h22_10, hbb_10, hbl_10, hb3_10⟩, hF10, hgmv9, (by omega), (by omega), (by first | assumption | exact PM_id (by omega) (by assumption)), (by first | assumption | exact Or.inl rfl), (by first | exact Or.inl ⟨rfl, by intro k h1 h2 e; subst e; first | exact absurd (by assumption) (nI_nlt h1 (by omega)) | exact absurd (by assumption) (nI_nlt h2 (by decide)) | exact absurd (nI_le h2 (by decide)) (by assumption) | exact absurd (nI_le h1 (by omega)) (by assumption), rfl, rfl, rfl, rfl⟩ | exact Or.inr ⟨rfl, ⟨_, by omega, by omega, rfl, rfl, rfl⟩, hstl, rfl, rfl⟩)⟩)
    · refine J_iconst (pc := 12) (v := nI 1) dX8_points_12 (by decide) ?_
      refine J_goto (pc := 13) (tgt := 17) dX8_points_13 (by decide) ?_
      refine J_callV0 (pc := 17) (M := mX8_points) (as := [.int (nI 1)]) dX8_points_17 fw_X8_isThrown_ fl_X8_105 fm_X8_isThrown_ fe_X8_isThrown_ h19 (by decide) rfl rfl rfl (c_X8_isThrown_ hs (d := d - 1) (Nat.le_trans (by decide) hdm) (w := w) (n := n) (mv := mv) (rw := rw) (nx := nx) (b := b) (bt := bt) (kn := kn) (en := en) (dn := dn) (rf := rf) (kk := kk) (th := th) ⟨h19, h20, h21, h22, hbb, hbl, hb3⟩ hn1 hn2 gm gr gx 1 (by first | assumption | omega) (kc := 0) (ks := 0)) hdp (st := []) (Nat.le_of_ble_eq_true rfl) rfl (kr_I fun v11 w11 hv11 hw11 => ?_) kx_I
      obtain ⟨hR11, hFc11⟩ := hw11
      obtain ⟨h19_11, h20_11, h21_11, h22_11, hbb_11, hbl_11, hb3_11⟩ := hR11
      have hF11 := hF.tr hFc11
      subst hv11
      show J X mX8_points d kc ks 20 [some (.ref 19), some (.int a), none] [.int (nI 1)] w11 _
      refine J_if_eqN (pc := 20) (tgt := 25) dX8_points_20 (by decide) (by decide) (fun h => absurd h (by decide)) (fun _ => ?_)
      refine J_iconst (pc := 23) (v := nI 0) dX8_points_23 (by decide) ?_
      exact J_iret (pc := 24) dX8_points_24 rfl (⟨n, mv, kn, dn, nI (tW 1 0), ⟨h19_11, h20_11, h21_11, h22_11, hbb_11, hbl_11, hb3_11⟩, hF11, gm, (by omega), (by omega), (by first | assumption | exact PM_id (by omega) (by assumption)), (by first | assumption | exact Or.inl rfl), (by first | exact Or.inl ⟨rfl, by intro k h1 h2 e; subst e; first | exact absurd (by assumption) (nI_nlt h1 (by omega)) | exact absurd (by assumption) (nI_nlt h2 (by decide)) | exact absurd (nI_le h2 (by decide)) (by assumption) | exact absurd (nI_le h1 (by omega)) (by assumption), rfl, rfl, rfl, rfl⟩ | exact Or.inr ⟨rfl, ⟨_, by omega, by omega, rfl, rfl, rfl⟩, hstl, rfl, rfl⟩)⟩)
set_option maxRecDepth 100000 in
set_option maxHeartbeats 4000000 in
theorem c_X8_turn_ate {X : jX} (hs : X.1.stackTraces = false) {d : Nat} (hd : 3 ≤ d) {n : Nat} {mv rw nx : Nat → Nat} {b : Nat} {bt : List Int32} {kn en dn rf kk th : Int32} {w : List jC} (hR : RM n mv rw nx b bt kn en dn rf kk th w) (hn1 : 2 ≤ n) (hn2 : n ≤ 7) (gm : ∀ i, mv i < 7) (gr : ∀ i, rw i < 7) (gx : ∀ i, nx i < 7) (a : Int32) (c : Int32) (hy0 : PM n mv) (hy1 : KB n kn bt) {kc ks : Nat} : jMet X mX8_turn d kc ks [.ref 19, .int a, .int c] w (pJ (fun v w' => ∃ (mv' : Nat → Nat), ∃ (rw' : Nat → Nat), ∃ (nx' : Nat → Nat), ∃ (kn' : Int32), ∃ (dn' : Int32), ∃ (th' : Int32), RM n mv' rw' nx' b bt kn' en dn' rf kk th' w' ∧ FR b b w w' ∧ (∀ i, mv' i < 7) ∧ (∀ i, rw' i < 7) ∧ (∀ i, nx' i < 7) ∧ PM n mv' ∧ KB n kn' bt ∧ ((th' = nI 1 ∧ ¬ (isN a 6) ∧ mv' = mv ∧ kn' = kn ∧ dn' = dn) ∨ (th' = nI 2 ∧ (isN a 6) ∧ ¬ ((-100) ≤ c ∧ c ≤ nI 100) ∧ mv' = mv ∧ kn' = kn ∧ dn' = dn) ∨ (th' = nI 0 ∧ (∃ a1 : Nat, a = nI a1 ∧ a1 < 6 ∧ (-100) ≤ c ∧ c ≤ nI 100 ∧ ACT n mv a1 (fun p => (mv (a1 * 7 + p) + tT n c) % n) mv' ∧ v = sgv (iv mv' (a1 * 7) n)) ∧ kn' = (-1) ∧ dn' = (dn + nI 1))))) := by
  refine jMet_of hs (by decide +kernel) (Nat.le_of_ble_eq_true rfl) (L := [some (.ref 19), some (.int a), some (.int c), none]) rfl ?_
  have hdm : 2 ≤ d - 1 := by omega
  have hdp : d - 1 + 1 ≤ d := by omega
  have hfc := fc_7 hn2
  have hfp := fc_pos n
  obtain ⟨h19, h20, h21, h22, hbb, hbl, hb3⟩ := hR
  have hF : FR b b w w := FR.rf
  refine J_aload_n (pc := 0) dX8_turn_0 rfl rfl rfl ?_
  refine J_iload_n (pc := 1) dX8_turn_1 rfl rfl ?_
  refine J_callS0 (pc := 2) (M := mX8_turn) (as := [.int a]) dX8_turn_2 fw_X8_isCell fl_X8_108 fs_X8_isCell rfl (c_X8_isCell hs (d := d - 1) (Nat.le_trans (by decide) hdm) (w := w) a (kc := 0) (ks := 0)) hdp (st := [.ref 19]) (Nat.le_of_ble_eq_true rfl) rfl (kr_P fun v1 hv1 => ?_) kx_I
  rcases hv1 with ⟨rfl, hk1_0⟩ | ⟨q1, rfl, hk1_0, rfl⟩
  · refine J_if_neN (pc := 5) (tgt := 12) dX8_turn_5 (by decide) (by decide) (fun h => absurd h (by decide)) (fun _ => ?_)
    refine J_iconst (pc := 8) (v := nI 1) dX8_turn_8 (by decide) ?_
    refine J_goto (pc := 9) (tgt := 13) dX8_turn_9 (by decide) ?_
    refine J_iload_n (pc := 13) dX8_turn_13 rfl rfl ?_
    refine J_bipush (pc := 14) (v := (-100)) dX8_turn_14 (by decide) ?_
    refine J_icmp_lt (pc := 16) (tgt := 25) dX8_turn_16 (by decide) (fun ht2 => ?_) (fun hf3 => ?_)
    · refine J_iconst (pc := 25) (v := nI 1) dX8_turn_25 (by decide) ?_
      refine J_goto (pc := 26) (tgt := 30) dX8_turn_26 (by decide) ?_
      refine J_callV0 (pc := 30) (M := mX8_turn) (as := [.int (nI 1), .int (nI 1)]) dX8_turn_30 fw_X8_isThrown fl_X8_35 fm_X8_isThrown fe_X8_isThrown h19 (by decide) rfl rfl rfl (c_X8_isThrown hs (d := d - 1) (Nat.le_trans (by decide) hdm) (w := w) (n := n) (mv := mv) (rw := rw) (nx := nx) (b := b) (bt := bt) (kn := kn) (en := en) (dn := dn) (rf := rf) (kk := kk) (th := th) ⟨h19, h20, h21, h22, hbb, hbl, hb3⟩ hn1 hn2 gm gr gx 1 1 (by first | assumption | omega) (by first | assumption | omega) (kc := 0) (ks := 0)) hdp (st := []) (Nat.le_of_ble_eq_true rfl) rfl (kr_I fun v4 w4 hv4 hw4 => ?_) kx_I
      obtain ⟨hR4, hFc4⟩ := hw4
      obtain ⟨h19_4, h20_4, h21_4, h22_4, hbb_4, hbl_4, hb3_4⟩ := hR4
      have hF4 := hF.tr hFc4
      subst hv4
      show J X mX8_turn d kc ks 33 [some (.ref 19), some (.int a), some (.int c), none] [.int (nI 1)] w4 _
      refine J_if_eqN (pc := 33) (tgt := 38) dX8_turn_33 (by decide) (by decide) (fun h => absurd h (by decide)) (fun _ => ?_)
      refine J_iconst (pc := 36) (v := nI 0) dX8_turn_36 (by decide) ?_
      exact J_iret (pc := 37) dX8_turn_37 rfl (⟨mv, rw, nx, kn, dn, nI (tW 1 1), ⟨h19_4, h20_4, h21_4, h22_4, hbb_4, hbl_4, hb3_4⟩, hF4, gm, gr, gx, (by first | assumption | exact PM_st hn2 (by assumption) (by assumption) (by assumption)), (by first | assumption | exact Or.inl rfl), (by first | exact Or.inl ⟨rfl, fun g => (by first | exact ne_isN (by assumption) g | exact ne_isN (by assumption) g.1 | exact ne_isN (by assumption) g.2 | exact ne_isN (by assumption) g.2.1 | exact ne_isN (by assumption) g.2.2 | exact ne_isN (by assumption) g.2.2.1 | exact ne_isN (by assumption) g.2.2.2), rfl, rfl, rfl⟩ | exact Or.inr (Or.inl ⟨rfl, isN_of (by first | assumption | omega), (by first | exact fun g => Int32.not_lt.mpr g.1 (by assumption) | exact fun g => Int32.not_le.mpr (by assumption) g.2 | exact fun g => Int32.not_lt.mpr g.2 (by assumption) | exact fun g => absurd g.2 (by assumption)), rfl, rfl, rfl⟩) | exact Or.inr (Or.inr (⟨rfl, ⟨_, rfl, by omega, hc1, hc2, ACT_of hn2 hbe (fun p hp => (hv40_0 _ (Nat.lt_of_lt_of_le (show mv (a * 7 + p) < n from (hy0 _ (by omega)).1 p hp) (by omega))).trans (by rw [hTe])), hbv⟩, rfl, rfl⟩)))⟩)
    · refine J_iload_n (pc := 19) dX8_turn_19 rfl rfl ?_
      refine J_bipush (pc := 20) (v := nI 100) dX8_turn_20 (by decide) ?_
      refine J_icmp_le (pc := 22) (tgt := 29) dX8_turn_22 (by decide) (fun ht5 => ?_) (fun hf6 => ?_)
      · refine J_iconst (pc := 29) (v := nI 0) dX8_turn_29 (by decide) ?_
        refine J_callV0 (pc := 30) (M := mX8_turn) (as := [.int (nI 1), .int (nI 0)]) dX8_turn_30 fw_X8_isThrown fl_X8_35 fm_X8_isThrown fe_X8_isThrown h19 (by decide) rfl rfl rfl (c_X8_isThrown hs (d := d - 1) (Nat.le_trans (by decide) hdm) (w := w) (n := n) (mv := mv) (rw := rw) (nx := nx) (b := b) (bt := bt) (kn := kn) (en := en) (dn := dn) (rf := rf) (kk := kk) (th := th) ⟨h19, h20, h21, h22, hbb, hbl, hb3⟩ hn1 hn2 gm gr gx 1 0 (by first | assumption | omega) (by first | assumption | omega) (kc := 0) (ks := 0)) hdp (st := []) (Nat.le_of_ble_eq_true rfl) rfl (kr_I fun v7 w7 hv7 hw7 => ?_) kx_I
        obtain ⟨hR7, hFc7⟩ := hw7
        obtain ⟨h19_7, h20_7, h21_7, h22_7, hbb_7, hbl_7, hb3_7⟩ := hR7
        have hF7 := hF.tr hFc7
        subst hv7
        show J X mX8_turn d kc ks 33 [some (.ref 19), some (.int a), some (.int c), none] [.int (nI 1)] w7 _
        refine J_if_eqN (pc := 33) (tgt := 38) dX8_turn_33 (by decide) (by decide) (fun h => absurd h (by decide)) (fun _ => ?_)
        refine J_iconst (pc := 36) (v := nI 0) dX8_turn_36 (by decide) ?_
        exact J_iret (pc := 37) dX8_turn_37 rfl (⟨mv, rw, nx, kn, dn, nI (tW 1 0), ⟨h19_7, h20_7, h21_7, h22_7, hbb_7, hbl_7, hb3_7⟩, hF7, gm, gr, gx, (by first | assumption | exact PM_st hn2 (by assumption) (by assumption) (by assumption)), (by first | assumption | exact Or.inl rfl), (by first | exact Or.inl ⟨rfl, fun g => (by first | exact ne_isN (by assumption) g | exact ne_isN (by assumption) g.1 | exact ne_isN (by assumption) g.2 | exact ne_isN (by assumption) g.2.1 | exact ne_isN (by assumption) g.2.2 | exact ne_isN (by assumption) g.2.2.1 | exact ne_isN (by assumption) g.2.2.2), rfl, rfl, rfl⟩ | exact Or.inr (Or.inl ⟨rfl, isN_of (by first | assumption | omega), (by first | exact fun g => Int32.not_lt.mpr g.1 (by assumption) | exact fun g => Int32.not_le.mpr (by assumption) g.2 | exact fun g => Int32.not_lt.mpr g.2 (by assumption) | exact fun g => absurd g.2 (by assumption)), rfl, rfl, rfl⟩) | exact Or.inr (Or.inr (⟨rfl, ⟨_, rfl, by omega, hc1, hc2, ACT_of hn2 hbe (fun p hp => (hv40_0 _ (Nat.lt_of_lt_of_le (show mv (a * 7 + p) < n from (hy0 _ (by omega)).1 p hp) (by omega))).trans (by rw [hTe])), hbv⟩, rfl, rfl⟩)))⟩)
      · refine J_iconst (pc := 25) (v := nI 1) dX8_turn_25 (by decide) ?_
        refine J_goto (pc := 26) (tgt := 30) dX8_turn_26 (by decide) ?_
        refine J_callV0 (pc := 30) (M := mX8_turn) (as := [.int (nI 1), .int (nI 1)]) dX8_turn_30 fw_X8_isThrown fl_X8_35 fm_X8_isThrown fe_X8_isThrown h19 (by decide) rfl rfl rfl (c_X8_isThrown hs (d := d - 1) (Nat.le_trans (by decide) hdm) (w := w) (n := n) (mv := mv) (rw := rw) (nx := nx) (b := b) (bt := bt) (kn := kn) (en := en) (dn := dn) (rf := rf) (kk := kk) (th := th) ⟨h19, h20, h21, h22, hbb, hbl, hb3⟩ hn1 hn2 gm gr gx 1 1 (by first | assumption | omega) (by first | assumption | omega) (kc := 0) (ks := 0)) hdp (st := []) (Nat.le_of_ble_eq_true rfl) rfl (kr_I fun v8 w8 hv8 hw8 => ?_) kx_I
        obtain ⟨hR8, hFc8⟩ := hw8
        obtain ⟨h19_8, h20_8, h21_8, h22_8, hbb_8, hbl_8, hb3_8⟩ := hR8
        have hF8 := hF.tr hFc8
        subst hv8
        show J X mX8_turn d kc ks 33 [some (.ref 19), some (.int a), some (.int c), none] [.int (nI 1)] w8 _
        refine J_if_eqN (pc := 33) (tgt := 38) dX8_turn_33 (by decide) (by decide) (fun h => absurd h (by decide)) (fun _ => ?_)
        refine J_iconst (pc := 36) (v := nI 0) dX8_turn_36 (by decide) ?_
        exact J_iret (pc := 37) dX8_turn_37 rfl (⟨mv, rw, nx, kn, dn, nI (tW 1 1), ⟨h19_8, h20_8, h21_8, h22_8, hbb_8, hbl_8, hb3_8⟩, hF8, gm, gr, gx, (by first | assumption | exact PM_st hn2 (by assumption) (by assumption) (by assumption)), (by first | assumption | exact Or.inl rfl), (by first | exact Or.inl ⟨rfl, fun g => (by first | exact ne_isN (by assumption) g | exact ne_isN (by assumption) g.1 | exact ne_isN (by assumption) g.2 | exact ne_isN (by assumption) g.2.1 | exact ne_isN (by assumption) g.2.2 | exact ne_isN (by assumption) g.2.2.1 | exact ne_isN (by assumption) g.2.2.2), rfl, rfl, rfl⟩ | exact Or.inr (Or.inl ⟨rfl, isN_of (by first | assumption | omega), (by first | exact fun g => Int32.not_lt.mpr g.1 (by assumption) | exact fun g => Int32.not_le.mpr (by assumption) g.2 | exact fun g => Int32.not_lt.mpr g.2 (by assumption) | exact fun g => absurd g.2 (by assumption)), rfl, rfl, rfl⟩) | exact Or.inr (Or.inr (⟨rfl, ⟨_, rfl, by omega, hc1, hc2, ACT_of hn2 hbe (fun p hp => (hv40_0 _ (Nat.lt_of_lt_of_le (show mv (a * 7 + p) < n from (hy0 _ (by omega)).1 p hp) (by omega))).trans (by rw [hTe])), hbv⟩, rfl, rfl⟩)))⟩)
  · refine J_if_neN (pc := 5) (tgt := 12) dX8_turn_5 (by decide) (by decide) (fun _ => ?_) (fun h => absurd h (by decide))
    refine J_iconst (pc := 12) (v := nI 0) dX8_turn_12 (by decide) ?_
    refine J_iload_n (pc := 13) dX8_turn_13 rfl rfl ?_
    refine J_bipush (pc := 14) (v := (-100)) dX8_turn_14 (by decide) ?_
    refine J_icmp_lt (pc := 16) (tgt := 25) dX8_turn_16 (by decide) (fun ht9 => ?_) (fun hf10 => ?_)
    · refine J_iconst (pc := 25) (v := nI 1) dX8_turn_25 (by decide) ?_
      refine J_goto (pc := 26) (tgt := 30) dX8_turn_26 (by decide) ?_
      refine J_callV0 (pc := 30) (M := mX8_turn) (as := [.int (nI 0), .int (nI 1)]) dX8_turn_30 fw_X8_isThrown fl_X8_35 fm_X8_isThrown fe_X8_isThrown h19 (by decide) rfl rfl rfl (c_X8_isThrown hs (d := d - 1) (Nat.le_trans (by decide) hdm) (w := w) (n := n) (mv := mv) (rw := rw) (nx := nx) (b := b) (bt := bt) (kn := kn) (en := en) (dn := dn) (rf := rf) (kk := kk) (th := th) ⟨h19, h20, h21, h22, hbb, hbl, hb3⟩ hn1 hn2 gm gr gx 0 1 (by first | assumption | omega) (by first | assumption | omega) (kc := 0) (ks := 0)) hdp (st := []) (Nat.le_of_ble_eq_true rfl) rfl (kr_I fun v11 w11 hv11 hw11 => ?_) kx_I
      obtain ⟨hR11, hFc11⟩ := hw11
      obtain ⟨h19_11, h20_11, h21_11, h22_11, hbb_11, hbl_11, hb3_11⟩ := hR11
      have hF11 := hF.tr hFc11
      subst hv11
      show J X mX8_turn d kc ks 33 [some (.ref 19), some (.int (nI q1)), some (.int c), none] [.int (nI 1)] w11 _
      refine J_if_eqN (pc := 33) (tgt := 38) dX8_turn_33 (by decide) (by decide) (fun h => absurd h (by decide)) (fun _ => ?_)
      refine J_iconst (pc := 36) (v := nI 0) dX8_turn_36 (by decide) ?_
      exact J_iret (pc := 37) dX8_turn_37 rfl (⟨mv, rw, nx, kn, dn, nI (tW 0 1), ⟨h19_11, h20_11, h21_11, h22_11, hbb_11, hbl_11, hb3_11⟩, hF11, gm, gr, gx, (by first | assumption | exact PM_st hn2 (by assumption) (by assumption) (by assumption)), (by first | assumption | exact Or.inl rfl), (by first | exact Or.inl ⟨rfl, fun g => (by first | exact ne_isN (by assumption) g | exact ne_isN (by assumption) g.1 | exact ne_isN (by assumption) g.2 | exact ne_isN (by assumption) g.2.1 | exact ne_isN (by assumption) g.2.2 | exact ne_isN (by assumption) g.2.2.1 | exact ne_isN (by assumption) g.2.2.2), rfl, rfl, rfl⟩ | exact Or.inr (Or.inl ⟨rfl, isN_of (by first | assumption | omega), (by first | exact fun g => Int32.not_lt.mpr g.1 (by assumption) | exact fun g => Int32.not_le.mpr (by assumption) g.2 | exact fun g => Int32.not_lt.mpr g.2 (by assumption) | exact fun g => absurd g.2 (by assumption)), rfl, rfl, rfl⟩) | exact Or.inr (Or.inr (⟨rfl, ⟨_, rfl, by omega, hc1, hc2, ACT_of hn2 hbe (fun p hp => (hv40_0 _ (Nat.lt_of_lt_of_le (show mv (q1 * 7 + p) < n from (hy0 _ (by omega)).1 p hp) (by omega))).trans (by rw [hTe])), hbv⟩, rfl, rfl⟩)))⟩)
    · refine J_iload_n (pc := 19) dX8_turn_19 rfl rfl ?_
      refine J_bipush (pc := 20) (v := nI 100) dX8_turn_20 (by decide) ?_
      refine J_icmp_le (pc := 22) (tgt := 29) dX8_turn_22 (by decide) (fun ht12 => ?_) (fun hf13 => ?_)
      · refine J_iconst (pc := 29) (v := nI 0) dX8_turn_29 (by decide) ?_
        refine J_callV0 (pc := 30) (M := mX8_turn) (as := [.int (nI 0), .int (nI 0)]) dX8_turn_30 fw_X8_isThrown fl_X8_35 fm_X8_isThrown fe_X8_isThrown h19 (by decide) rfl rfl rfl (c_X8_isThrown hs (d := d - 1) (Nat.le_trans (by decide) hdm) (w := w) (n := n) (mv := mv) (rw := rw) (nx := nx) (b := b) (bt := bt) (kn := kn) (en := en) (dn := dn) (rf := rf) (kk := kk) (th := th) ⟨h19, h20, h21, h22, hbb, hbl, hb3⟩ hn1 hn2 gm gr gx 0 0 (by first | assumption | omega) (by first | assumption | omega) (kc := 0) (ks := 0)) hdp (st := []) (Nat.le_of_ble_eq_true rfl) rfl (kr_I fun v14 w14 hv14 hw14 => ?_) kx_I
        obtain ⟨hR14, hFc14⟩ := hw14
        obtain ⟨h19_14, h20_14, h21_14, h22_14, hbb_14, hbl_14, hb3_14⟩ := hR14
        have hF14 := hF.tr hFc14
        subst hv14
        show J X mX8_turn d kc ks 33 [some (.ref 19), some (.int (nI q1)), some (.int c), none] [.int (nI 0)] w14 _
        refine J_if_eqN (pc := 33) (tgt := 38) dX8_turn_33 (by decide) (by decide) (fun _ => ?_) (fun h => absurd h (by decide))
        have hc1 := Int32.not_lt.mp (show ¬ c < (-100) by assumption)
        have hc2 := (show c ≤ nI 100 by assumption)
        obtain ⟨T, hTe, hT⟩ : ∃ T : Nat, T = tT n c ∧ ∀ p, p < n → (((nI p + c) - (nI p + c) / nI n * nI n) + nI n) - (((nI p + c) - (nI p + c) / nI n * nI n) + nI n) / nI n * nI n = nI ((p + T) % n) := ⟨_, rfl, fun p hp => turn_r hn1 hn2 hp hc1 hc2⟩
        refine J_iconst (pc := 38) (v := nI 0) dX8_turn_38 (by decide) ?_
        refine J_istore_n (pc := 39) dX8_turn_39 rfl (by decide) rfl ?_
        show J X mX8_turn d kc ks 40 [some (.ref 19), some (.int (nI q1)), some (.int c), some (.int (nI 0))] [] w14 _
        have lp40_15 : ∀ (fuel : Nat) (w16 : List jC) (rw_40 : Nat → Nat) (c3 : Nat), (RM n mv rw_40 nx b bt kn en dn rf kk (nI (tW 0 0)) w16) → (FR b b w w16) → (∀ i, rw_40 i < 7) → (∀ p, p < c3 → rw_40 p = (p + T) % n) → (c3 ≤ n) → (n - c3 < fuel) → J X mX8_turn d kc ks 40 [some (.ref 19), some (.int (nI q1)), some (.int c), some (.int (nI c3))] [] w16 (pJ (fun v w' => ∃ (mv' : Nat → Nat), ∃ (rw' : Nat → Nat), ∃ (nx' : Nat → Nat), ∃ (kn' : Int32), ∃ (dn' : Int32), ∃ (th' : Int32), RM n mv' rw' nx' b bt kn' en dn' rf kk th' w' ∧ FR b b w w' ∧ (∀ i, mv' i < 7) ∧ (∀ i, rw' i < 7) ∧ (∀ i, nx' i < 7) ∧ PM n mv' ∧ KB n kn' bt ∧ ((th' = nI 1 ∧ ¬ (isN (nI q1) 6) ∧ mv' = mv ∧ kn' = kn ∧ dn' = dn) ∨ (th' = nI 2 ∧ (isN (nI q1) 6) ∧ ¬ ((-100) ≤ c ∧ c ≤ nI 100) ∧ mv' = mv ∧ kn' = kn ∧ dn' = dn) ∨ (th' = nI 0 ∧ (∃ a1 : Nat, (nI q1) = nI a1 ∧ a1 < 6 ∧ (-100) ≤ c ∧ c ≤ nI 100 ∧ ACT n mv a1 (fun p => (mv (a1 * 7 + p) + tT n c) % n) mv' ∧ v = sgv (iv mv' (a1 * 7) n)) ∧ kn' = (-1) ∧ dn' = (dn + nI 1))))) := by
          intro fuellp40_15
          induction fuellp40_15 with
          | zero => intros; omega
          | succ fuellp40_15 ihlp40_15 =>
            intro w16 rw_40 c3 hR17 hF18 gr19 hv40_0 hv40_1 hf20
            obtain ⟨h19_21, h20_21, h21_21, h22_21, hb_21, hbl_21, hb3_21⟩ := hR17
            refine J_iload_n (pc := 40) dX8_turn_40 rfl rfl ?_
            refine J_aload_n (pc := 41) dX8_turn_41 rfl rfl rfl ?_
            refine J_get (pc := 42) (k := 0) dX8_turn_42 kC9 (by decide) ff_X8_7 h19_21 rfl ?_
            refine J_icmp_geN (pc := 45) (tgt := 78) dX8_turn_45 (by decide) (by omega) (by omega) (fun ht22 => ?_) (fun hf23 => ?_)
            · have hPr := Pn_rot (by omega) (r := rw_40) (T := T) (fun p hp => hv40_0 p (by omega))
              refine J_aload_n (pc := 78) dX8_turn_78 rfl rfl rfl ?_
              refine J_iload_n (pc := 79) dX8_turn_79 rfl rfl ?_
              refine J_aload_n (pc := 80) dX8_turn_80 rfl rfl rfl ?_
              refine J_get (pc := 81) (k := 2) dX8_turn_81 kC9 (by decide) ff_X8_17 h19_21 rfl ?_
              refine J_callV0 (pc := 84) (M := mX8_turn) (as := [.int (nI q1), .ref 21]) dX8_turn_84 fw_X8_behind fl_X8_124 fm_X8_behind fe_X8_behind h19_21 (by decide) rfl rfl rfl (c_X8_behind_ate hs (d := d - 1) (Nat.le_trans (by decide) hdm) (w := w16) (n := n) (mv := mv) (rw := rw_40) (nx := nx) (b := b) (bt := bt) (kn := kn) (en := en) (dn := dn) (rf := rf) (kk := kk) (th := nI (tW 0 0)) ⟨h19_21, h20_21, h21_21, h22_21, hb_21, hbl_21, hb3_21⟩ hn1 hn2 gm gr19 gx q1 (by first | assumption | omega) (by first | assumption | omega) (by first | assumption | omega) (kc := 0) (ks := 0)) hdp (st := []) (Nat.le_of_ble_eq_true rfl) rfl (kr_J fun v24 w24 hw24 => ?_) kx_J
              obtain ⟨mv24, nx24, hR24, hFc24, hgmv24, hgnx24, hp24_0, hp24_1, hp24_2⟩ := hw24
              obtain ⟨h19_24, h20_24, h21_24, h22_24, hbb_24, hbl_24, hb3_24⟩ := hR24
              have hF24 := hF18.tr hFc24
              have hbe := hp24_1
              have hbv := hp24_2
              exact J_iret (pc := 87) dX8_turn_87 rfl (⟨mv24, rw_40, nx24, (-1), (dn + nI 1), nI (tW 0 0), ⟨h19_24, h20_24, h21_24, h22_24, hbb_24, hbl_24, hb3_24⟩, hF24, hgmv24, gr19, hgnx24, (by first | assumption | exact PM_st hn2 (by assumption) (by assumption) (by assumption)), (by first | assumption | exact Or.inl rfl), (by first | exact Or.inl ⟨rfl, fun g => (by first | exact ne_isN (by assumption) g | exact ne_isN (by assumption) g.1 | exact ne_isN (by assumption) g.2 | exact ne_isN (by assumption) g.2.1 | exact ne_isN (by assumption) g.2.2 | exact ne_isN (by assumption) g.2.2.1 | exact ne_isN (by assumption) g.2.2.2), rfl, rfl, rfl⟩ | exact Or.inr (Or.inl ⟨rfl, isN_of (by first | assumption | omega), (by first | exact fun g => Int32.not_lt.mpr g.1 (by assumption) | exact fun g => Int32.not_le.mpr (by assumption) g.2 | exact fun g => Int32.not_lt.mpr g.2 (by assumption) | exact fun g => absurd g.2 (by assumption)), rfl, rfl, rfl⟩) | exact Or.inr (Or.inr (⟨rfl, ⟨_, rfl, by omega, hc1, hc2, ACT_of hn2 hbe (fun p hp => (hv40_0 _ (Nat.lt_of_lt_of_le (show mv (q1 * 7 + p) < n from (hy0 _ (by omega)).1 p hp) (by omega))).trans (by rw [hTe])), hbv⟩, rfl, rfl⟩)))⟩)
            · refine J_aload_n (pc := 48) dX8_turn_48 rfl rfl rfl ?_
              refine J_get (pc := 49) (k := 2) dX8_turn_49 kC9 (by decide) ff_X8_17 h19_21 rfl ?_
              refine J_iload_n (pc := 52) dX8_turn_52 rfl rfl ?_
              refine J_iload_n (pc := 53) dX8_turn_53 rfl rfl ?_
              refine J_iload_n (pc := 54) dX8_turn_54 rfl rfl ?_
              refine J_iadd (pc := 55) dX8_turn_55 ?_
              refine J_aload_n (pc := 56) dX8_turn_56 rfl rfl rfl ?_
              refine J_get (pc := 57) (k := 0) dX8_turn_57 kC9 (by decide) ff_X8_7 h19_21 rfl ?_
              refine J_irem (pc := 60) dX8_turn_60 (nI_ne0 (by omega) (by omega)) ?_
              refine J_aload_n (pc := 61) dX8_turn_61 rfl rfl rfl ?_
              refine J_get (pc := 62) (k := 0) dX8_turn_62 kC9 (by decide) ff_X8_7 h19_21 rfl ?_
              refine J_iadd (pc := 65) dX8_turn_65 ?_
              refine J_aload_n (pc := 66) dX8_turn_66 rfl rfl rfl ?_
              refine J_get (pc := 67) (k := 0) dX8_turn_67 kC9 (by decide) ff_X8_7 h19_21 rfl ?_
              refine J_irem (pc := 70) dX8_turn_70 (nI_ne0 (by omega) (by omega)) ?_
              rw [hT c3 (by omega)]
              have hm71 := Nat.mod_lt (c3 + T) (show 0 < n by omega)
              refine J_iastF (pc := 71) dX8_turn_71 h21_21 (by omega) (by decide) (fun w25 hln25 hc25 hne25 => ?_)
              have hg25 : ∀ i, (up rw_40 c3 ((c3 + T) % n)) i < 7 := up_b gr19 (by omega)
              have h19_25 := (hne25 19 (by decide)).trans h19_21
              have h20_25 := (hne25 20 (by decide)).trans h20_21
              have h22_25 := (hne25 22 (by decide)).trans h22_21
              have hb_25 := (hne25 _ (Nat.ne_of_gt (Nat.lt_of_lt_of_le (by decide) hb3_21))).trans hb_21
              have hF25 := hF18.st hln25 hne25 (Or.inl (by decide))
              refine J_iincN (pc := 72) (b := 1) dX8_turn_72 rfl (by decide) (by decide) rfl ?_
              show J X mX8_turn d kc ks 75 [some (.ref 19), some (.int (nI q1)), some (.int c), some (.int (nI (c3 + 1)))] [] w25 _
              refine J_goto (pc := 75) (tgt := 40) dX8_turn_75 (by decide) ?_
              exact J_sub (L' := [some (.ref 19), some (.int (nI q1)), some (.int c), some (.int (nI (c3 + 1)))]) ⟨rfl, ⟨rfl, ⟨rfl, ⟨rfl, trivial⟩⟩⟩⟩ (ihlp40_15 w25 (up rw_40 c3 ((c3 + T) % n)) (c3 + 1) ⟨h19_25, h20_25, hc25, h22_25, hb_25, hbl_21, hb3_21⟩ hF25 hg25 (by intro p hp; by_cases e : p = c3; (subst e; exact up_s _ _ _); (rw [up_n e]; exact hv40_0 p (by omega))) (by first | assumption | omega) (by omega))
        exact J_sub (L' := [some (.ref 19), some (.int (nI q1)), some (.int c), some (.int (nI 0))]) ⟨rfl, ⟨rfl, ⟨rfl, ⟨rfl, trivial⟩⟩⟩⟩ (lp40_15 _ w14 rw 0 ⟨h19_14, h20_14, h21_14, h22_14, hbb_14, hbl_14, hb3_14⟩ hF14 gr (by intro p hp; omega) (by first | assumption | omega) (Nat.lt_succ_self _))
      · refine J_iconst (pc := 25) (v := nI 1) dX8_turn_25 (by decide) ?_
        refine J_goto (pc := 26) (tgt := 30) dX8_turn_26 (by decide) ?_
        refine J_callV0 (pc := 30) (M := mX8_turn) (as := [.int (nI 0), .int (nI 1)]) dX8_turn_30 fw_X8_isThrown fl_X8_35 fm_X8_isThrown fe_X8_isThrown h19 (by decide) rfl rfl rfl (c_X8_isThrown hs (d := d - 1) (Nat.le_trans (by decide) hdm) (w := w) (n := n) (mv := mv) (rw := rw) (nx := nx) (b := b) (bt := bt) (kn := kn) (en := en) (dn := dn) (rf := rf) (kk := kk) (th := th) ⟨h19, h20, h21, h22, hbb, hbl, hb3⟩ hn1 hn2 gm gr gx 0 1 (by first | assumption | omega) (by first | assumption | omega) (kc := 0) (ks := 0)) hdp (st := []) (Nat.le_of_ble_eq_true rfl) rfl (kr_I fun v26 w26 hv26 hw26 => ?_) kx_I
        obtain ⟨hR26, hFc26⟩ := hw26
        obtain ⟨h19_26, h20_26, h21_26, h22_26, hbb_26, hbl_26, hb3_26⟩ := hR26
        have hF26 := hF.tr hFc26
        subst hv26
        show J X mX8_turn d kc ks 33 [some (.ref 19), some (.int (nI q1)), some (.int c), none] [.int (nI 1)] w26 _
        refine J_if_eqN (pc := 33) (tgt := 38) dX8_turn_33 (by decide) (by decide) (fun h => absurd h (by decide)) (fun _ => ?_)
        refine J_iconst (pc := 36) (v := nI 0) dX8_turn_36 (by decide) ?_
        exact J_iret (pc := 37) dX8_turn_37 rfl (⟨mv, rw, nx, kn, dn, nI (tW 0 1), ⟨h19_26, h20_26, h21_26, h22_26, hbb_26, hbl_26, hb3_26⟩, hF26, gm, gr, gx, (by first | assumption | exact PM_st hn2 (by assumption) (by assumption) (by assumption)), (by first | assumption | exact Or.inl rfl), (by first | exact Or.inl ⟨rfl, fun g => (by first | exact ne_isN (by assumption) g | exact ne_isN (by assumption) g.1 | exact ne_isN (by assumption) g.2 | exact ne_isN (by assumption) g.2.1 | exact ne_isN (by assumption) g.2.2 | exact ne_isN (by assumption) g.2.2.1 | exact ne_isN (by assumption) g.2.2.2), rfl, rfl, rfl⟩ | exact Or.inr (Or.inl ⟨rfl, isN_of (by first | assumption | omega), (by first | exact fun g => Int32.not_lt.mpr g.1 (by assumption) | exact fun g => Int32.not_le.mpr (by assumption) g.2 | exact fun g => Int32.not_lt.mpr g.2 (by assumption) | exact fun g => absurd g.2 (by assumption)), rfl, rfl, rfl⟩) | exact Or.inr (Or.inr (⟨rfl, ⟨_, rfl, by omega, hc1, hc2, ACT_of hn2 hbe (fun p hp => (hv40_0 _ (Nat.lt_of_lt_of_le (show mv (q1 * 7 + p) < n from (hy0 _ (by omega)).1 p hp) (by omega))).trans (by rw [hTe])), hbv⟩, rfl, rfl⟩)))⟩)
set_option maxRecDepth 100000 in
set_option maxHeartbeats 4000000 in
theorem c_X8_power_ate {X : jX} (hs : X.1.stackTraces = false) {d : Nat} (hd : 2 ≤ d) {n : Nat} {mv rw nx : Nat → Nat} {b : Nat} {bt : List Int32} {kn en dn rf kk th : Int32} {w : List jC} (hR : RM n mv rw nx b bt kn en dn rf kk th w) (hn1 : 2 ≤ n) (hn2 : n ≤ 7) (gm : ∀ i, mv i < 7) (gr : ∀ i, rw i < 7) (gx : ∀ i, nx i < 7) (a : Int32) (c : Int32) (e : Int32) (hy0 : PM n mv) (hy1 : KB n kn bt) {kc ks : Nat} : jMet X mX8_power d kc ks [.ref 19, .int a, .int c, .int e] w (pJ (fun v w' => ∃ (mv' : Nat → Nat), ∃ (nx' : Nat → Nat), ∃ (kn' : Int32), ∃ (dn' : Int32), ∃ (th' : Int32), RM n mv' rw nx' b bt kn' en dn' rf kk th' w' ∧ FR b b w w' ∧ (∀ i, mv' i < 7) ∧ (∀ i, nx' i < 7) ∧ PM n mv' ∧ KB n kn' bt ∧ ((th' = nI 1 ∧ ¬ (isN a 6 ∧ isN e 6) ∧ mv' = mv ∧ kn' = kn ∧ dn' = dn) ∨ (th' = nI 2 ∧ (isN a 6 ∧ isN e 6) ∧ ¬ ((-1000) ≤ c ∧ c ≤ nI 1000) ∧ mv' = mv ∧ kn' = kn ∧ dn' = dn) ∨ (th' = nI 0 ∧ (∃ a1 c1 : Nat, a = nI a1 ∧ e = nI c1 ∧ a1 < 6 ∧ c1 < 6 ∧ (-1000) ≤ c ∧ c ≤ nI 1000 ∧ ACT n mv c1 (it (fun p => mv (a1 * 7 + p)) (tP c)) mv' ∧ v = nI (nuF (it (fun p => mv (a1 * 7 + p)) (tP c)) 0 n n)) ∧ kn' = (-1) ∧ dn' = (dn + nI 1))))) := by
  refine jMet_of hs (by decide +kernel) (Nat.le_of_ble_eq_true rfl) (L := [some (.ref 19), some (.int a), some (.int c), some (.int e), none, none, none, none]) rfl ?_
  have hdm : 1 ≤ d - 1 := by omega
  have hdp : d - 1 + 1 ≤ d := by omega
  have hfc := fc_7 hn2
  have hfp := fc_pos n
  obtain ⟨h19, h20, h21, h22, hbb, hbl, hb3⟩ := hR
  have hF : FR b b w w := FR.rf
  refine J_aload_n (pc := 0) dX8_power_0 rfl rfl rfl ?_
  refine J_iload_n (pc := 1) dX8_power_1 rfl rfl ?_
  refine J_callS0 (pc := 2) (M := mX8_power) (as := [.int a]) dX8_power_2 fw_X8_isCell fl_X8_108 fs_X8_isCell rfl (c_X8_isCell hs (d := d - 1) (Nat.le_trans (by decide) hdm) (w := w) a (kc := 0) (ks := 0)) hdp (st := [.ref 19]) (Nat.le_of_ble_eq_true rfl) rfl (kr_P fun v1 hv1 => ?_) kx_I
  rcases hv1 with ⟨rfl, hk1_0⟩ | ⟨q1, rfl, hk1_0, rfl⟩
  · refine J_if_eqN (pc := 5) (tgt := 15) dX8_power_5 (by decide) (by decide) (fun _ => ?_) (fun h => absurd h (by decide))
    refine J_iconst (pc := 15) (v := nI 1) dX8_power_15 (by decide) ?_
    refine J_goto (pc := 16) (tgt := 20) dX8_power_16 (by decide) ?_
    refine J_iload_n (pc := 20) dX8_power_20 rfl rfl ?_
    refine J_sipush (pc := 21) (v := (-1000)) dX8_power_21 (by decide) ?_
    refine J_icmp_lt (pc := 24) (tgt := 34) dX8_power_24 (by decide) (fun ht2 => ?_) (fun hf3 => ?_)
    · refine J_iconst (pc := 34) (v := nI 1) dX8_power_34 (by decide) ?_
      refine J_goto (pc := 35) (tgt := 39) dX8_power_35 (by decide) ?_
      refine J_callV0 (pc := 39) (M := mX8_power) (as := [.int (nI 1), .int (nI 1)]) dX8_power_39 fw_X8_isThrown fl_X8_35 fm_X8_isThrown fe_X8_isThrown h19 (by decide) rfl rfl rfl (c_X8_isThrown hs (d := d - 1) (Nat.le_trans (by decide) hdm) (w := w) (n := n) (mv := mv) (rw := rw) (nx := nx) (b := b) (bt := bt) (kn := kn) (en := en) (dn := dn) (rf := rf) (kk := kk) (th := th) ⟨h19, h20, h21, h22, hbb, hbl, hb3⟩ hn1 hn2 gm gr gx 1 1 (by first | assumption | omega) (by first | assumption | omega) (kc := 0) (ks := 0)) hdp (st := []) (Nat.le_of_ble_eq_true rfl) rfl (kr_I fun v4 w4 hv4 hw4 => ?_) kx_I
      obtain ⟨hR4, hFc4⟩ := hw4
      obtain ⟨h19_4, h20_4, h21_4, h22_4, hbb_4, hbl_4, hb3_4⟩ := hR4
      have hF4 := hF.tr hFc4
      subst hv4
      show J X mX8_power d kc ks 42 [some (.ref 19), some (.int a), some (.int c), some (.int e), none, none, none, none] [.int (nI 1)] w4 _
      refine J_if_eqN (pc := 42) (tgt := 47) dX8_power_42 (by decide) (by decide) (fun h => absurd h (by decide)) (fun _ => ?_)
      refine J_iconst (pc := 45) (v := nI 0) dX8_power_45 (by decide) ?_
      exact J_iret (pc := 46) dX8_power_46 rfl (⟨mv, nx, kn, dn, nI (tW 1 1), ⟨h19_4, h20_4, h21_4, h22_4, hbb_4, hbl_4, hb3_4⟩, hF4, gm, gx, (by first | assumption | exact PM_st hn2 (by assumption) (by assumption) (by assumption)), (by first | assumption | exact Or.inl rfl), (by first | exact Or.inl ⟨rfl, fun g => (by first | exact ne_isN (by assumption) g | exact ne_isN (by assumption) g.1 | exact ne_isN (by assumption) g.2 | exact ne_isN (by assumption) g.2.1 | exact ne_isN (by assumption) g.2.2 | exact ne_isN (by assumption) g.2.2.1 | exact ne_isN (by assumption) g.2.2.2), rfl, rfl, rfl⟩ | exact Or.inr (Or.inl ⟨rfl, ⟨isN_of (by first | assumption | omega), isN_of (by first | assumption | omega)⟩, (by first | exact fun g => Int32.not_lt.mpr g.1 (by assumption) | exact fun g => Int32.not_le.mpr (by assumption) g.2 | exact fun g => Int32.not_lt.mpr g.2 (by assumption) | exact fun g => absurd g.2 (by assumption)), rfl, rfl, rfl⟩) | exact Or.inr (Or.inr (⟨rfl, ⟨_, _, rfl, rfl, by omega, by omega, hc1, hc2, ACT_of hn2 hgt (fun p hp => (hv50_0 p (by omega)).trans (by rw [hTe])), congrArg nI (nu_congr (fun p hp => (hv50_0 p (by omega)).trans (by rw [hTe])))⟩, rfl, rfl⟩)))⟩)
    · refine J_iload_n (pc := 27) dX8_power_27 rfl rfl ?_
      refine J_sipush (pc := 28) (v := nI 1000) dX8_power_28 (by decide) ?_
      refine J_icmp_le (pc := 31) (tgt := 38) dX8_power_31 (by decide) (fun ht5 => ?_) (fun hf6 => ?_)
      · refine J_iconst (pc := 38) (v := nI 0) dX8_power_38 (by decide) ?_
        refine J_callV0 (pc := 39) (M := mX8_power) (as := [.int (nI 1), .int (nI 0)]) dX8_power_39 fw_X8_isThrown fl_X8_35 fm_X8_isThrown fe_X8_isThrown h19 (by decide) rfl rfl rfl (c_X8_isThrown hs (d := d - 1) (Nat.le_trans (by decide) hdm) (w := w) (n := n) (mv := mv) (rw := rw) (nx := nx) (b := b) (bt := bt) (kn := kn) (en := en) (dn := dn) (rf := rf) (kk := kk) (th := th) ⟨h19, h20, h21, h22, hbb, hbl, hb3⟩ hn1 hn2 gm gr gx 1 0 (by first | assumption | omega) (by first | assumption | omega) (kc := 0) (ks := 0)) hdp (st := []) (Nat.le_of_ble_eq_true rfl) rfl (kr_I fun v7 w7 hv7 hw7 => ?_) kx_I
        obtain ⟨hR7, hFc7⟩ := hw7
        obtain ⟨h19_7, h20_7, h21_7, h22_7, hbb_7, hbl_7, hb3_7⟩ := hR7
        have hF7 := hF.tr hFc7
        subst hv7
        show J X mX8_power d kc ks 42 [some (.ref 19), some (.int a), some (.int c), some (.int e), none, none, none, none] [.int (nI 1)] w7 _
        refine J_if_eqN (pc := 42) (tgt := 47) dX8_power_42 (by decide) (by decide) (fun h => absurd h (by decide)) (fun _ => ?_)
        refine J_iconst (pc := 45) (v := nI 0) dX8_power_45 (by decide) ?_
        exact J_iret (pc := 46) dX8_power_46 rfl (⟨mv, nx, kn, dn, nI (tW 1 0), ⟨h19_7, h20_7, h21_7, h22_7, hbb_7, hbl_7, hb3_7⟩, hF7, gm, gx, (by first | assumption | exact PM_st hn2 (by assumption) (by assumption) (by assumption)), (by first | assumption | exact Or.inl rfl), (by first | exact Or.inl ⟨rfl, fun g => (by first | exact ne_isN (by assumption) g | exact ne_isN (by assumption) g.1 | exact ne_isN (by assumption) g.2 | exact ne_isN (by assumption) g.2.1 | exact ne_isN (by assumption) g.2.2 | exact ne_isN (by assumption) g.2.2.1 | exact ne_isN (by assumption) g.2.2.2), rfl, rfl, rfl⟩ | exact Or.inr (Or.inl ⟨rfl, ⟨isN_of (by first | assumption | omega), isN_of (by first | assumption | omega)⟩, (by first | exact fun g => Int32.not_lt.mpr g.1 (by assumption) | exact fun g => Int32.not_le.mpr (by assumption) g.2 | exact fun g => Int32.not_lt.mpr g.2 (by assumption) | exact fun g => absurd g.2 (by assumption)), rfl, rfl, rfl⟩) | exact Or.inr (Or.inr (⟨rfl, ⟨_, _, rfl, rfl, by omega, by omega, hc1, hc2, ACT_of hn2 hgt (fun p hp => (hv50_0 p (by omega)).trans (by rw [hTe])), congrArg nI (nu_congr (fun p hp => (hv50_0 p (by omega)).trans (by rw [hTe])))⟩, rfl, rfl⟩)))⟩)
      · refine J_iconst (pc := 34) (v := nI 1) dX8_power_34 (by decide) ?_
        refine J_goto (pc := 35) (tgt := 39) dX8_power_35 (by decide) ?_
        refine J_callV0 (pc := 39) (M := mX8_power) (as := [.int (nI 1), .int (nI 1)]) dX8_power_39 fw_X8_isThrown fl_X8_35 fm_X8_isThrown fe_X8_isThrown h19 (by decide) rfl rfl rfl (c_X8_isThrown hs (d := d - 1) (Nat.le_trans (by decide) hdm) (w := w) (n := n) (mv := mv) (rw := rw) (nx := nx) (b := b) (bt := bt) (kn := kn) (en := en) (dn := dn) (rf := rf) (kk := kk) (th := th) ⟨h19, h20, h21, h22, hbb, hbl, hb3⟩ hn1 hn2 gm gr gx 1 1 (by first | assumption | omega) (by first | assumption | omega) (kc := 0) (ks := 0)) hdp (st := []) (Nat.le_of_ble_eq_true rfl) rfl (kr_I fun v8 w8 hv8 hw8 => ?_) kx_I
        obtain ⟨hR8, hFc8⟩ := hw8
        obtain ⟨h19_8, h20_8, h21_8, h22_8, hbb_8, hbl_8, hb3_8⟩ := hR8
        have hF8 := hF.tr hFc8
        subst hv8
        show J X mX8_power d kc ks 42 [some (.ref 19), some (.int a), some (.int c), some (.int e), none, none, none, none] [.int (nI 1)] w8 _
        refine J_if_eqN (pc := 42) (tgt := 47) dX8_power_42 (by decide) (by decide) (fun h => absurd h (by decide)) (fun _ => ?_)
        refine J_iconst (pc := 45) (v := nI 0) dX8_power_45 (by decide) ?_
        exact J_iret (pc := 46) dX8_power_46 rfl (⟨mv, nx, kn, dn, nI (tW 1 1), ⟨h19_8, h20_8, h21_8, h22_8, hbb_8, hbl_8, hb3_8⟩, hF8, gm, gx, (by first | assumption | exact PM_st hn2 (by assumption) (by assumption) (by assumption)), (by first | assumption | exact Or.inl rfl), (by first | exact Or.inl ⟨rfl, fun g => (by first | exact ne_isN (by assumption) g | exact ne_isN (by assumption) g.1 | exact ne_isN (by assumption) g.2 | exact ne_isN (by assumption) g.2.1 | exact ne_isN (by assumption) g.2.2 | exact ne_isN (by assumption) g.2.2.1 | exact ne_isN (by assumption) g.2.2.2), rfl, rfl, rfl⟩ | exact Or.inr (Or.inl ⟨rfl, ⟨isN_of (by first | assumption | omega), isN_of (by first | assumption | omega)⟩, (by first | exact fun g => Int32.not_lt.mpr g.1 (by assumption) | exact fun g => Int32.not_le.mpr (by assumption) g.2 | exact fun g => Int32.not_lt.mpr g.2 (by assumption) | exact fun g => absurd g.2 (by assumption)), rfl, rfl, rfl⟩) | exact Or.inr (Or.inr (⟨rfl, ⟨_, _, rfl, rfl, by omega, by omega, hc1, hc2, ACT_of hn2 hgt (fun p hp => (hv50_0 p (by omega)).trans (by rw [hTe])), congrArg nI (nu_congr (fun p hp => (hv50_0 p (by omega)).trans (by rw [hTe])))⟩, rfl, rfl⟩)))⟩)
  · refine J_if_eqN (pc := 5) (tgt := 15) dX8_power_5 (by decide) (by decide) (fun h => absurd h (by decide)) (fun _ => ?_)
    refine J_iload_n (pc := 8) dX8_power_8 rfl rfl ?_
    refine J_callS0 (pc := 9) (M := mX8_power) (as := [.int e]) dX8_power_9 fw_X8_isCell fl_X8_108 fs_X8_isCell rfl (c_X8_isCell hs (d := d - 1) (Nat.le_trans (by decide) hdm) (w := w) e (kc := 0) (ks := 0)) hdp (st := [.ref 19]) (Nat.le_of_ble_eq_true rfl) rfl (kr_P fun v9 hv9 => ?_) kx_I
    rcases hv9 with ⟨rfl, hk9_0⟩ | ⟨q9, rfl, hk9_0, rfl⟩
    · refine J_if_neN (pc := 12) (tgt := 19) dX8_power_12 (by decide) (by decide) (fun h => absurd h (by decide)) (fun _ => ?_)
      refine J_iconst (pc := 15) (v := nI 1) dX8_power_15 (by decide) ?_
      refine J_goto (pc := 16) (tgt := 20) dX8_power_16 (by decide) ?_
      refine J_iload_n (pc := 20) dX8_power_20 rfl rfl ?_
      refine J_sipush (pc := 21) (v := (-1000)) dX8_power_21 (by decide) ?_
      refine J_icmp_lt (pc := 24) (tgt := 34) dX8_power_24 (by decide) (fun ht10 => ?_) (fun hf11 => ?_)
      · refine J_iconst (pc := 34) (v := nI 1) dX8_power_34 (by decide) ?_
        refine J_goto (pc := 35) (tgt := 39) dX8_power_35 (by decide) ?_
        refine J_callV0 (pc := 39) (M := mX8_power) (as := [.int (nI 1), .int (nI 1)]) dX8_power_39 fw_X8_isThrown fl_X8_35 fm_X8_isThrown fe_X8_isThrown h19 (by decide) rfl rfl rfl (c_X8_isThrown hs (d := d - 1) (Nat.le_trans (by decide) hdm) (w := w) (n := n) (mv := mv) (rw := rw) (nx := nx) (b := b) (bt := bt) (kn := kn) (en := en) (dn := dn) (rf := rf) (kk := kk) (th := th) ⟨h19, h20, h21, h22, hbb, hbl, hb3⟩ hn1 hn2 gm gr gx 1 1 (by first | assumption | omega) (by first | assumption | omega) (kc := 0) (ks := 0)) hdp (st := []) (Nat.le_of_ble_eq_true rfl) rfl (kr_I fun v12 w12 hv12 hw12 => ?_) kx_I
        obtain ⟨hR12, hFc12⟩ := hw12
        obtain ⟨h19_12, h20_12, h21_12, h22_12, hbb_12, hbl_12, hb3_12⟩ := hR12
        have hF12 := hF.tr hFc12
        subst hv12
        show J X mX8_power d kc ks 42 [some (.ref 19), some (.int (nI q1)), some (.int c), some (.int e), none, none, none, none] [.int (nI 1)] w12 _
        refine J_if_eqN (pc := 42) (tgt := 47) dX8_power_42 (by decide) (by decide) (fun h => absurd h (by decide)) (fun _ => ?_)
        refine J_iconst (pc := 45) (v := nI 0) dX8_power_45 (by decide) ?_
        exact J_iret (pc := 46) dX8_power_46 rfl (⟨mv, nx, kn, dn, nI (tW 1 1), ⟨h19_12, h20_12, h21_12, h22_12, hbb_12, hbl_12, hb3_12⟩, hF12, gm, gx, (by first | assumption | exact PM_st hn2 (by assumption) (by assumption) (by assumption)), (by first | assumption | exact Or.inl rfl), (by first | exact Or.inl ⟨rfl, fun g => (by first | exact ne_isN (by assumption) g | exact ne_isN (by assumption) g.1 | exact ne_isN (by assumption) g.2 | exact ne_isN (by assumption) g.2.1 | exact ne_isN (by assumption) g.2.2 | exact ne_isN (by assumption) g.2.2.1 | exact ne_isN (by assumption) g.2.2.2), rfl, rfl, rfl⟩ | exact Or.inr (Or.inl ⟨rfl, ⟨isN_of (by first | assumption | omega), isN_of (by first | assumption | omega)⟩, (by first | exact fun g => Int32.not_lt.mpr g.1 (by assumption) | exact fun g => Int32.not_le.mpr (by assumption) g.2 | exact fun g => Int32.not_lt.mpr g.2 (by assumption) | exact fun g => absurd g.2 (by assumption)), rfl, rfl, rfl⟩) | exact Or.inr (Or.inr (⟨rfl, ⟨_, _, rfl, rfl, by omega, by omega, hc1, hc2, ACT_of hn2 hgt (fun p hp => (hv50_0 p (by omega)).trans (by rw [hTe])), congrArg nI (nu_congr (fun p hp => (hv50_0 p (by omega)).trans (by rw [hTe])))⟩, rfl, rfl⟩)))⟩)
      · refine J_iload_n (pc := 27) dX8_power_27 rfl rfl ?_
        refine J_sipush (pc := 28) (v := nI 1000) dX8_power_28 (by decide) ?_
        refine J_icmp_le (pc := 31) (tgt := 38) dX8_power_31 (by decide) (fun ht13 => ?_) (fun hf14 => ?_)
        · refine J_iconst (pc := 38) (v := nI 0) dX8_power_38 (by decide) ?_
          refine J_callV0 (pc := 39) (M := mX8_power) (as := [.int (nI 1), .int (nI 0)]) dX8_power_39 fw_X8_isThrown fl_X8_35 fm_X8_isThrown fe_X8_isThrown h19 (by decide) rfl rfl rfl (c_X8_isThrown hs (d := d - 1) (Nat.le_trans (by decide) hdm) (w := w) (n := n) (mv := mv) (rw := rw) (nx := nx) (b := b) (bt := bt) (kn := kn) (en := en) (dn := dn) (rf := rf) (kk := kk) (th := th) ⟨h19, h20, h21, h22, hbb, hbl, hb3⟩ hn1 hn2 gm gr gx 1 0 (by first | assumption | omega) (by first | assumption | omega) (kc := 0) (ks := 0)) hdp (st := []) (Nat.le_of_ble_eq_true rfl) rfl (kr_I fun v15 w15 hv15 hw15 => ?_) kx_I
          obtain ⟨hR15, hFc15⟩ := hw15
          obtain ⟨h19_15, h20_15, h21_15, h22_15, hbb_15, hbl_15, hb3_15⟩ := hR15
          have hF15 := hF.tr hFc15
          subst hv15
          show J X mX8_power d kc ks 42 [some (.ref 19), some (.int (nI q1)), some (.int c), some (.int e), none, none, none, none] [.int (nI 1)] w15 _
          refine J_if_eqN (pc := 42) (tgt := 47) dX8_power_42 (by decide) (by decide) (fun h => absurd h (by decide)) (fun _ => ?_)
          refine J_iconst (pc := 45) (v := nI 0) dX8_power_45 (by decide) ?_
          exact J_iret (pc := 46) dX8_power_46 rfl (⟨mv, nx, kn, dn, nI (tW 1 0), ⟨h19_15, h20_15, h21_15, h22_15, hbb_15, hbl_15, hb3_15⟩, hF15, gm, gx, (by first | assumption | exact PM_st hn2 (by assumption) (by assumption) (by assumption)), (by first | assumption | exact Or.inl rfl), (by first | exact Or.inl ⟨rfl, fun g => (by first | exact ne_isN (by assumption) g | exact ne_isN (by assumption) g.1 | exact ne_isN (by assumption) g.2 | exact ne_isN (by assumption) g.2.1 | exact ne_isN (by assumption) g.2.2 | exact ne_isN (by assumption) g.2.2.1 | exact ne_isN (by assumption) g.2.2.2), rfl, rfl, rfl⟩ | exact Or.inr (Or.inl ⟨rfl, ⟨isN_of (by first | assumption | omega), isN_of (by first | assumption | omega)⟩, (by first | exact fun g => Int32.not_lt.mpr g.1 (by assumption) | exact fun g => Int32.not_le.mpr (by assumption) g.2 | exact fun g => Int32.not_lt.mpr g.2 (by assumption) | exact fun g => absurd g.2 (by assumption)), rfl, rfl, rfl⟩) | exact Or.inr (Or.inr (⟨rfl, ⟨_, _, rfl, rfl, by omega, by omega, hc1, hc2, ACT_of hn2 hgt (fun p hp => (hv50_0 p (by omega)).trans (by rw [hTe])), congrArg nI (nu_congr (fun p hp => (hv50_0 p (by omega)).trans (by rw [hTe])))⟩, rfl, rfl⟩)))⟩)
        · refine J_iconst (pc := 34) (v := nI 1) dX8_power_34 (by decide) ?_
          refine J_goto (pc := 35) (tgt := 39) dX8_power_35 (by decide) ?_
          refine J_callV0 (pc := 39) (M := mX8_power) (as := [.int (nI 1), .int (nI 1)]) dX8_power_39 fw_X8_isThrown fl_X8_35 fm_X8_isThrown fe_X8_isThrown h19 (by decide) rfl rfl rfl (c_X8_isThrown hs (d := d - 1) (Nat.le_trans (by decide) hdm) (w := w) (n := n) (mv := mv) (rw := rw) (nx := nx) (b := b) (bt := bt) (kn := kn) (en := en) (dn := dn) (rf := rf) (kk := kk) (th := th) ⟨h19, h20, h21, h22, hbb, hbl, hb3⟩ hn1 hn2 gm gr gx 1 1 (by first | assumption | omega) (by first | assumption | omega) (kc := 0) (ks := 0)) hdp (st := []) (Nat.le_of_ble_eq_true rfl) rfl (kr_I fun v16 w16 hv16 hw16 => ?_) kx_I
          obtain ⟨hR16, hFc16⟩ := hw16
          obtain ⟨h19_16, h20_16, h21_16, h22_16, hbb_16, hbl_16, hb3_16⟩ := hR16
          have hF16 := hF.tr hFc16
          subst hv16
          show J X mX8_power d kc ks 42 [some (.ref 19), some (.int (nI q1)), some (.int c), some (.int e), none, none, none, none] [.int (nI 1)] w16 _
          refine J_if_eqN (pc := 42) (tgt := 47) dX8_power_42 (by decide) (by decide) (fun h => absurd h (by decide)) (fun _ => ?_)
          refine J_iconst (pc := 45) (v := nI 0) dX8_power_45 (by decide) ?_
          exact J_iret (pc := 46) dX8_power_46 rfl (⟨mv, nx, kn, dn, nI (tW 1 1), ⟨h19_16, h20_16, h21_16, h22_16, hbb_16, hbl_16, hb3_16⟩, hF16, gm, gx, (by first | assumption | exact PM_st hn2 (by assumption) (by assumption) (by assumption)), (by first | assumption | exact Or.inl rfl), (by first | exact Or.inl ⟨rfl, fun g => (by first | exact ne_isN (by assumption) g | exact ne_isN (by assumption) g.1 | exact ne_isN (by assumption) g.2 | exact ne_isN (by assumption) g.2.1 | exact ne_isN (by assumption) g.2.2 | exact ne_isN (by assumption) g.2.2.1 | exact ne_isN (by assumption) g.2.2.2), rfl, rfl, rfl⟩ | exact Or.inr (Or.inl ⟨rfl, ⟨isN_of (by first | assumption | omega), isN_of (by first | assumption | omega)⟩, (by first | exact fun g => Int32.not_lt.mpr g.1 (by assumption) | exact fun g => Int32.not_le.mpr (by assumption) g.2 | exact fun g => Int32.not_lt.mpr g.2 (by assumption) | exact fun g => absurd g.2 (by assumption)), rfl, rfl, rfl⟩) | exact Or.inr (Or.inr (⟨rfl, ⟨_, _, rfl, rfl, by omega, by omega, hc1, hc2, ACT_of hn2 hgt (fun p hp => (hv50_0 p (by omega)).trans (by rw [hTe])), congrArg nI (nu_congr (fun p hp => (hv50_0 p (by omega)).trans (by rw [hTe])))⟩, rfl, rfl⟩)))⟩)
    · refine J_if_neN (pc := 12) (tgt := 19) dX8_power_12 (by decide) (by decide) (fun _ => ?_) (fun h => absurd h (by decide))
      refine J_iconst (pc := 19) (v := nI 0) dX8_power_19 (by decide) ?_
      refine J_iload_n (pc := 20) dX8_power_20 rfl rfl ?_
      refine J_sipush (pc := 21) (v := (-1000)) dX8_power_21 (by decide) ?_
      refine J_icmp_lt (pc := 24) (tgt := 34) dX8_power_24 (by decide) (fun ht17 => ?_) (fun hf18 => ?_)
      · refine J_iconst (pc := 34) (v := nI 1) dX8_power_34 (by decide) ?_
        refine J_goto (pc := 35) (tgt := 39) dX8_power_35 (by decide) ?_
        refine J_callV0 (pc := 39) (M := mX8_power) (as := [.int (nI 0), .int (nI 1)]) dX8_power_39 fw_X8_isThrown fl_X8_35 fm_X8_isThrown fe_X8_isThrown h19 (by decide) rfl rfl rfl (c_X8_isThrown hs (d := d - 1) (Nat.le_trans (by decide) hdm) (w := w) (n := n) (mv := mv) (rw := rw) (nx := nx) (b := b) (bt := bt) (kn := kn) (en := en) (dn := dn) (rf := rf) (kk := kk) (th := th) ⟨h19, h20, h21, h22, hbb, hbl, hb3⟩ hn1 hn2 gm gr gx 0 1 (by first | assumption | omega) (by first | assumption | omega) (kc := 0) (ks := 0)) hdp (st := []) (Nat.le_of_ble_eq_true rfl) rfl (kr_I fun v19 w19 hv19 hw19 => ?_) kx_I
        obtain ⟨hR19, hFc19⟩ := hw19
        obtain ⟨h19_19, h20_19, h21_19, h22_19, hbb_19, hbl_19, hb3_19⟩ := hR19
        have hF19 := hF.tr hFc19
        subst hv19
        show J X mX8_power d kc ks 42 [some (.ref 19), some (.int (nI q1)), some (.int c), some (.int (nI q9)), none, none, none, none] [.int (nI 1)] w19 _
        refine J_if_eqN (pc := 42) (tgt := 47) dX8_power_42 (by decide) (by decide) (fun h => absurd h (by decide)) (fun _ => ?_)
        refine J_iconst (pc := 45) (v := nI 0) dX8_power_45 (by decide) ?_
        exact J_iret (pc := 46) dX8_power_46 rfl (⟨mv, nx, kn, dn, nI (tW 0 1), ⟨h19_19, h20_19, h21_19, h22_19, hbb_19, hbl_19, hb3_19⟩, hF19, gm, gx, (by first | assumption | exact PM_st hn2 (by assumption) (by assumption) (by assumption)), (by first | assumption | exact Or.inl rfl), (by first | exact Or.inl ⟨rfl, fun g => (by first | exact ne_isN (by assumption) g | exact ne_isN (by assumption) g.1 | exact ne_isN (by assumption) g.2 | exact ne_isN (by assumption) g.2.1 | exact ne_isN (by assumption) g.2.2 | exact ne_isN (by assumption) g.2.2.1 | exact ne_isN (by assumption) g.2.2.2), rfl, rfl, rfl⟩ | exact Or.inr (Or.inl ⟨rfl, ⟨isN_of (by first | assumption | omega), isN_of (by first | assumption | omega)⟩, (by first | exact fun g => Int32.not_lt.mpr g.1 (by assumption) | exact fun g => Int32.not_le.mpr (by assumption) g.2 | exact fun g => Int32.not_lt.mpr g.2 (by assumption) | exact fun g => absurd g.2 (by assumption)), rfl, rfl, rfl⟩) | exact Or.inr (Or.inr (⟨rfl, ⟨_, _, rfl, rfl, by omega, by omega, hc1, hc2, ACT_of hn2 hgt (fun p hp => (hv50_0 p (by omega)).trans (by rw [hTe])), congrArg nI (nu_congr (fun p hp => (hv50_0 p (by omega)).trans (by rw [hTe])))⟩, rfl, rfl⟩)))⟩)
      · refine J_iload_n (pc := 27) dX8_power_27 rfl rfl ?_
        refine J_sipush (pc := 28) (v := nI 1000) dX8_power_28 (by decide) ?_
        refine J_icmp_le (pc := 31) (tgt := 38) dX8_power_31 (by decide) (fun ht20 => ?_) (fun hf21 => ?_)
        · refine J_iconst (pc := 38) (v := nI 0) dX8_power_38 (by decide) ?_
          refine J_callV0 (pc := 39) (M := mX8_power) (as := [.int (nI 0), .int (nI 0)]) dX8_power_39 fw_X8_isThrown fl_X8_35 fm_X8_isThrown fe_X8_isThrown h19 (by decide) rfl rfl rfl (c_X8_isThrown hs (d := d - 1) (Nat.le_trans (by decide) hdm) (w := w) (n := n) (mv := mv) (rw := rw) (nx := nx) (b := b) (bt := bt) (kn := kn) (en := en) (dn := dn) (rf := rf) (kk := kk) (th := th) ⟨h19, h20, h21, h22, hbb, hbl, hb3⟩ hn1 hn2 gm gr gx 0 0 (by first | assumption | omega) (by first | assumption | omega) (kc := 0) (ks := 0)) hdp (st := []) (Nat.le_of_ble_eq_true rfl) rfl (kr_I fun v22 w22 hv22 hw22 => ?_) kx_I
          obtain ⟨hR22, hFc22⟩ := hw22
          obtain ⟨h19_22, h20_22, h21_22, h22_22, hbb_22, hbl_22, hb3_22⟩ := hR22
          have hF22 := hF.tr hFc22
          subst hv22
          show J X mX8_power d kc ks 42 [some (.ref 19), some (.int (nI q1)), some (.int c), some (.int (nI q9)), none, none, none, none] [.int (nI 0)] w22 _
          refine J_if_eqN (pc := 42) (tgt := 47) dX8_power_42 (by decide) (by decide) (fun _ => ?_) (fun h => absurd h (by decide))
          have hc1 := Int32.not_lt.mp (show ¬ c < (-1000) by assumption)
          have hc2 := (show c ≤ nI 1000 by assumption)
          obtain ⟨T, hTe, hT⟩ : ∃ T : Nat, T = tP c ∧ ∀ K, 1 ≤ K → K ≤ 7 → (((c) - (c) / nI K * nI K) + nI K) - (((c) - (c) / nI K * nI K) + nI K) / nI K * nI K = nI (T % K) := ⟨_, rfl, fun K h1 h2 => pow_r hc1 hc2 h1 h2⟩
          refine J_iconst (pc := 47) (v := nI 0) dX8_power_47 (by decide) ?_
          refine J_istore (pc := 48) dX8_power_48 (by decide) rfl ?_
          show J X mX8_power d kc ks 50 [some (.ref 19), some (.int (nI q1)), some (.int c), some (.int (nI q9)), some (.int (nI 0)), none, none, none] [] w22 _
          have lp50_23 : ∀ (fuel : Nat) (w24 : List jC) (nx_50 : Nat → Nat) (c4 : Nat), (RM n mv rw nx_50 b bt kn en dn rf kk (nI (tW 0 0)) w24) → (FR b b w w24) → (∀ i, nx_50 i < 7) → (∀ p, p < c4 → nx_50 p = it (fun p => mv (q1 * 7 + p)) T p) → (c4 ≤ n) → (n - c4 < fuel) → J X mX8_power d kc ks 50 [some (.ref 19), some (.int (nI q1)), some (.int c), some (.int (nI q9)), some (.int (nI c4)), none, none, none] [] w24 (pJ (fun v w' => ∃ (mv' : Nat → Nat), ∃ (nx' : Nat → Nat), ∃ (kn' : Int32), ∃ (dn' : Int32), ∃ (th' : Int32), RM n mv' rw nx' b bt kn' en dn' rf kk th' w' ∧ FR b b w w' ∧ (∀ i, mv' i < 7) ∧ (∀ i, nx' i < 7) ∧ PM n mv' ∧ KB n kn' bt ∧ ((th' = nI 1 ∧ ¬ (isN (nI q1) 6 ∧ isN (nI q9) 6) ∧ mv' = mv ∧ kn' = kn ∧ dn' = dn) ∨ (th' = nI 2 ∧ (isN (nI q1) 6 ∧ isN (nI q9) 6) ∧ ¬ ((-1000) ≤ c ∧ c ≤ nI 1000) ∧ mv' = mv ∧ kn' = kn ∧ dn' = dn) ∨ (th' = nI 0 ∧ (∃ a1 c1 : Nat, (nI q1) = nI a1 ∧ (nI q9) = nI c1 ∧ a1 < 6 ∧ c1 < 6 ∧ (-1000) ≤ c ∧ c ≤ nI 1000 ∧ ACT n mv c1 (it (fun p => mv (a1 * 7 + p)) (tP c)) mv' ∧ v = nI (nuF (it (fun p => mv (a1 * 7 + p)) (tP c)) 0 n n)) ∧ kn' = (-1) ∧ dn' = (dn + nI 1))))) := by
            intro fuellp50_23
            induction fuellp50_23 with
            | zero => intros; omega
            | succ fuellp50_23 ihlp50_23 =>
              intro w24 nx_50 c4 hR25 hF26 gx27 hv50_0 hv50_1 hf28
              obtain ⟨h19_29, h20_29, h21_29, h22_29, hb_29, hbl_29, hb3_29⟩ := hR25
              refine J_iload (pc := 50) dX8_power_50 rfl ?_
              refine J_aload_n (pc := 52) dX8_power_52 rfl rfl rfl ?_
              refine J_get (pc := 53) (k := 0) dX8_power_53 kC9 (by decide) ff_X8_7 h19_29 rfl ?_
              refine J_icmp_geN (pc := 56) (tgt := 126) dX8_power_56 (by decide) (by omega) (by omega) (fun ht30 => ?_) (fun hf31 => ?_)
              · have hPx := (it_Pn (hy0 q1 (by omega)) T).congr (g := nx_50) (fun p hp => hv50_0 p (by omega))
                refine J_aload_n (pc := 126) dX8_power_126 rfl rfl rfl ?_
                refine J_iload_n (pc := 127) dX8_power_127 rfl rfl ?_
                refine J_aload_n (pc := 128) dX8_power_128 rfl rfl rfl ?_
                refine J_get (pc := 129) (k := 3) dX8_power_129 kC9 (by decide) ff_X8_20 h19_29 rfl ?_
                refine J_callV0 (pc := 132) (M := mX8_power) (as := [.int (nI q9), .ref 22]) dX8_power_132 fw_X8_get fl_X8_111 fm_X8_get fe_X8_get h19_29 (by decide) rfl rfl rfl (c_X8_get_at22 hs (d := d - 1) (Nat.le_trans (by decide) hdm) (w := w24) (n := n) (mv := mv) (rw := rw) (nx := nx_50) (b := b) (bt := bt) (kn := kn) (en := en) (dn := dn) (rf := rf) (kk := kk) (th := nI (tW 0 0)) ⟨h19_29, h20_29, h21_29, h22_29, hb_29, hbl_29, hb3_29⟩ hn1 hn2 gm gr gx27 q9 (by first | assumption | omega) (kc := 0) (ks := 0)) hdp (st := []) (Nat.le_of_ble_eq_true rfl) rfl (kr_I fun v32 w32 hv32 hw32 => ?_) kx_I
                obtain ⟨mv32, hR32, hFc32, hgmv32, hp32_0⟩ := hw32
                obtain ⟨h19_32, h20_32, h21_32, h22_32, hbb_32, hbl_32, hb3_32⟩ := hR32
                have hF32 := hF26.tr hFc32
                subst hv32
                have hgt := hp32_0
                exact J_iret (pc := 135) dX8_power_135 rfl (⟨mv32, nx_50, (-1), (dn + nI 1), nI (tW 0 0), ⟨h19_32, h20_32, h21_32, h22_32, hbb_32, hbl_32, hb3_32⟩, hF32, hgmv32, gx27, (by first | assumption | exact PM_st hn2 (by assumption) (by assumption) (by assumption)), (by first | assumption | exact Or.inl rfl), (by first | exact Or.inl ⟨rfl, fun g => (by first | exact ne_isN (by assumption) g | exact ne_isN (by assumption) g.1 | exact ne_isN (by assumption) g.2 | exact ne_isN (by assumption) g.2.1 | exact ne_isN (by assumption) g.2.2 | exact ne_isN (by assumption) g.2.2.1 | exact ne_isN (by assumption) g.2.2.2), rfl, rfl, rfl⟩ | exact Or.inr (Or.inl ⟨rfl, ⟨isN_of (by first | assumption | omega), isN_of (by first | assumption | omega)⟩, (by first | exact fun g => Int32.not_lt.mpr g.1 (by assumption) | exact fun g => Int32.not_le.mpr (by assumption) g.2 | exact fun g => Int32.not_lt.mpr g.2 (by assumption) | exact fun g => absurd g.2 (by assumption)), rfl, rfl, rfl⟩) | exact Or.inr (Or.inr (⟨rfl, ⟨_, _, rfl, rfl, by omega, by omega, hc1, hc2, ACT_of hn2 hgt (fun p hp => (hv50_0 p (by omega)).trans (by rw [hTe])), congrArg nI (nu_congr (fun p hp => (hv50_0 p (by omega)).trans (by rw [hTe])))⟩, rfl, rfl⟩)))⟩)
              · refine J_aload_n (pc := 59) dX8_power_59 rfl rfl rfl ?_
                refine J_aload_n (pc := 60) dX8_power_60 rfl rfl rfl ?_
                refine J_get (pc := 61) (k := 1) dX8_power_61 kC9 (by decide) ff_X8_13 h19_29 rfl ?_
                refine J_iload_n (pc := 64) dX8_power_64 rfl rfl ?_
                refine J_bipush (pc := 65) (v := nI 7) dX8_power_65 (by decide) ?_
                refine J_imulN (pc := 67) dX8_power_67 ?_
                refine J_iload (pc := 68) dX8_power_68 rfl ?_
                refine J_callV0 (pc := 70) (M := mX8_power) (as := [.ref 20, .int (nI (q1 * 7)), .int (nI c4)]) dX8_power_70 fw_X8_ringFrom fl_X8_61 fm_X8_ringFrom fe_X8_ringFrom h19_29 (by decide) rfl rfl rfl (c_X8_ringFrom_at20 hs (d := d - 1) (Nat.le_trans (by decide) hdm) (w := w24) (n := n) (mv := mv) (rw := rw) (nx := nx_50) (b := b) (bt := bt) (kn := kn) (en := en) (dn := dn) (rf := rf) (kk := kk) (th := nI (tW 0 0)) ⟨h19_29, h20_29, h21_29, h22_29, hb_29, hbl_29, hb3_29⟩ hn1 hn2 gm gr gx27 (q1 * 7) c4 (by first | assumption | omega) (by exact hy0 q1 (by omega)) (by first | assumption | omega) (kc := 0) (ks := 0)) hdp (st := []) (Nat.le_of_ble_eq_true rfl) rfl (kr_P fun v33 hv33 => ?_) kx_I
                obtain ⟨k33, rfl, hk33⟩ := hv33
                have hK3 := hk33.2.2.1
                refine J_istore (pc := 73) dX8_power_73 (by decide) rfl ?_
                show J X mX8_power d kc ks 75 [some (.ref 19), some (.int (nI q1)), some (.int c), some (.int (nI q9)), some (.int (nI c4)), some (.int (nI k33)), none, none] [] w24 _
                refine J_iload (pc := 75) dX8_power_75 rfl ?_
                refine J_istore (pc := 77) dX8_power_77 (by decide) rfl ?_
                show J X mX8_power d kc ks 79 [some (.ref 19), some (.int (nI q1)), some (.int c), some (.int (nI q9)), some (.int (nI c4)), some (.int (nI k33)), some (.int (nI c4)), none] [] w24 _
                refine J_iload_n (pc := 79) dX8_power_79 rfl rfl ?_
                refine J_iload (pc := 80) dX8_power_80 rfl ?_
                refine J_irem (pc := 82) dX8_power_82 (nI_ne0 (by omega) (by omega)) ?_
                refine J_iload (pc := 83) dX8_power_83 rfl ?_
                refine J_iadd (pc := 85) dX8_power_85 ?_
                refine J_iload (pc := 86) dX8_power_86 rfl ?_
                refine J_irem (pc := 88) dX8_power_88 (nI_ne0 (by omega) (by omega)) ?_
                rw [hT k33 (by omega) (by omega)]
                have hm89 := Nat.mod_lt T (show 0 < k33 by omega)
                refine J_istore (pc := 89) dX8_power_89 (by decide) rfl ?_
                show J X mX8_power d kc ks 91 [some (.ref 19), some (.int (nI q1)), some (.int c), some (.int (nI q9)), some (.int (nI c4)), some (.int (nI k33)), some (.int (nI c4)), some (.int (nI (T % k33)))] [] w24 _
                have lp91_34 : ∀ (fuel : Nat) (y6 : Nat) (c7 : Nat), (y6 = it (fun p => mv (q1 * 7 + p)) (T % k33 - c7) c4) → (c7 ≤ T % k33) → (y6 < n) → (c7 < fuel) → J X mX8_power d kc ks 91 [some (.ref 19), some (.int (nI q1)), some (.int c), some (.int (nI q9)), some (.int (nI c4)), some (.int (nI k33)), some (.int (nI y6)), some (.int (nI c7))] [] w24 (pJ (fun v w' => ∃ (mv' : Nat → Nat), ∃ (nx' : Nat → Nat), ∃ (kn' : Int32), ∃ (dn' : Int32), ∃ (th' : Int32), RM n mv' rw nx' b bt kn' en dn' rf kk th' w' ∧ FR b b w w' ∧ (∀ i, mv' i < 7) ∧ (∀ i, nx' i < 7) ∧ PM n mv' ∧ KB n kn' bt ∧ ((th' = nI 1 ∧ ¬ (isN (nI q1) 6 ∧ isN (nI q9) 6) ∧ mv' = mv ∧ kn' = kn ∧ dn' = dn) ∨ (th' = nI 2 ∧ (isN (nI q1) 6 ∧ isN (nI q9) 6) ∧ ¬ ((-1000) ≤ c ∧ c ≤ nI 1000) ∧ mv' = mv ∧ kn' = kn ∧ dn' = dn) ∨ (th' = nI 0 ∧ (∃ a1 c1 : Nat, (nI q1) = nI a1 ∧ (nI q9) = nI c1 ∧ a1 < 6 ∧ c1 < 6 ∧ (-1000) ≤ c ∧ c ≤ nI 1000 ∧ ACT n mv c1 (it (fun p => mv (a1 * 7 + p)) (tP c)) mv' ∧ v = nI (nuF (it (fun p => mv (a1 * 7 + p)) (tP c)) 0 n n)) ∧ kn' = (-1) ∧ dn' = (dn + nI 1))))) := by
                  intro fuellp91_34
                  induction fuellp91_34 with
                  | zero => intros; omega
                  | succ fuellp91_34 ihlp91_34 =>
                    intro y6 c7 hv91_0 hv91_1 hv91_2 hf35
                    refine J_iload (pc := 91) dX8_power_91 rfl ?_
                    refine J_if_leN (pc := 93) (tgt := 111) dX8_power_93 (by decide) (by omega) (fun ht36 => ?_) (fun hf37 => ?_)
                    · have hm111 : y6 = it (fun p => mv (q1 * 7 + p)) T c4 := by rw [hv91_0, show c7 = 0 by omega, Nat.sub_zero]; exact it_mod hK3 T
                      refine J_aload_n (pc := 111) dX8_power_111 rfl rfl rfl ?_
                      refine J_get (pc := 112) (k := 3) dX8_power_112 kC9 (by decide) ff_X8_20 h19_29 rfl ?_
                      refine J_iload (pc := 115) dX8_power_115 rfl ?_
                      refine J_iload (pc := 117) dX8_power_117 rfl ?_
                      refine J_iastF (pc := 119) dX8_power_119 h22_29 (by omega) (by decide) (fun w38 hln38 hc38 hne38 => ?_)
                      have hg38 : ∀ i, (up nx_50 c4 y6) i < 7 := up_b gx27 (by omega)
                      have h19_38 := (hne38 19 (by decide)).trans h19_29
                      have h20_38 := (hne38 20 (by decide)).trans h20_29
                      have h21_38 := (hne38 21 (by decide)).trans h21_29
                      have hb_38 := (hne38 _ (Nat.ne_of_gt (Nat.lt_of_lt_of_le (by decide) hb3_29))).trans hb_29
                      have hF38 := hF26.st hln38 hne38 (Or.inl (by decide))
                      refine J_iincN (pc := 120) (b := 1) dX8_power_120 rfl (by decide) (by decide) rfl ?_
                      show J X mX8_power d kc ks 123 [some (.ref 19), some (.int (nI q1)), some (.int c), some (.int (nI q9)), some (.int (nI (c4 + 1))), some (.int (nI k33)), some (.int (nI y6)), some (.int (nI c7))] [] w38 _
                      refine J_goto (pc := 123) (tgt := 50) dX8_power_123 (by decide) ?_
                      exact J_sub (L' := [some (.ref 19), some (.int (nI q1)), some (.int c), some (.int (nI q9)), some (.int (nI (c4 + 1))), none, none, none]) ⟨rfl, ⟨rfl, ⟨rfl, ⟨rfl, ⟨rfl, trivial⟩⟩⟩⟩⟩ (ihlp50_23 w38 (up nx_50 c4 y6) (c4 + 1) ⟨h19_38, h20_38, h21_38, hc38, hb_38, hbl_29, hb3_29⟩ hF38 hg38 (by intro p hp; by_cases e : p = c4; (subst e; rw [up_s]; exact hm111); (rw [up_n e]; exact hv50_0 p (by omega))) (by first | assumption | omega) (by omega))
                    · refine J_aload_n (pc := 96) dX8_power_96 rfl rfl rfl ?_
                      refine J_iload_n (pc := 97) dX8_power_97 rfl rfl ?_
                      refine J_iload (pc := 98) dX8_power_98 rfl ?_
                      refine J_callV0 (pc := 100) (M := mX8_power) (as := [.int (nI q1), .int (nI y6)]) dX8_power_100 fw_X8_at fl_X8_82 fm_X8_at fe_X8_at h19_29 (by decide) rfl rfl rfl (c_X8_at hs (d := d - 1) (Nat.le_trans (by decide) hdm) (w := w24) (n := n) (mv := mv) (rw := rw) (nx := nx_50) (b := b) (bt := bt) (kn := kn) (en := en) (dn := dn) (rf := rf) (kk := kk) (th := nI (tW 0 0)) ⟨h19_29, h20_29, h21_29, h22_29, hb_29, hbl_29, hb3_29⟩ hn1 hn2 gm gr gx27 q1 y6 (by first | assumption | omega) (by first | assumption | omega) (kc := 0) (ks := 0)) hdp (st := []) (Nat.le_of_ble_eq_true rfl) rfl (kr_P fun v39 hv39 => ?_) kx_I
                      subst hv39
                      have hq40 := gm (q1 * 7 + y6)
                      refine J_istore (pc := 103) dX8_power_103 (by decide) rfl ?_
                      show J X mX8_power d kc ks 105 [some (.ref 19), some (.int (nI q1)), some (.int c), some (.int (nI q9)), some (.int (nI c4)), some (.int (nI k33)), some (.int (nI (mv (q1 * 7 + y6)))), some (.int (nI c7))] [] w24 _
                      refine J_iincM (pc := 105) dX8_power_105 rfl (by omega) (by decide) rfl ?_
                      show J X mX8_power d kc ks 108 [some (.ref 19), some (.int (nI q1)), some (.int c), some (.int (nI q9)), some (.int (nI c4)), some (.int (nI k33)), some (.int (nI (mv (q1 * 7 + y6)))), some (.int (nI (c7 - 1)))] [] w24 _
                      refine J_goto (pc := 108) (tgt := 91) dX8_power_108 (by decide) ?_
                      exact J_sub (L' := [some (.ref 19), some (.int (nI q1)), some (.int c), some (.int (nI q9)), some (.int (nI c4)), some (.int (nI k33)), some (.int (nI (mv (q1 * 7 + y6)))), some (.int (nI (c7 - 1)))]) ⟨rfl, ⟨rfl, ⟨rfl, ⟨rfl, ⟨rfl, ⟨rfl, ⟨rfl, ⟨rfl, trivial⟩⟩⟩⟩⟩⟩⟩⟩ (ihlp91_34 (mv (q1 * 7 + y6)) (c7 - 1) (by rw [hv91_0, show T % k33 - (c7 - 1) = (T % k33 - c7) + 1 by omega]; rfl) (by first | assumption | omega) (by exact (hy0 q1 (by omega)).1 y6 hv91_2) (by omega))
                exact J_sub (L' := [some (.ref 19), some (.int (nI q1)), some (.int c), some (.int (nI q9)), some (.int (nI c4)), some (.int (nI k33)), some (.int (nI c4)), some (.int (nI (T % k33)))]) ⟨rfl, ⟨rfl, ⟨rfl, ⟨rfl, ⟨rfl, ⟨rfl, ⟨rfl, ⟨rfl, trivial⟩⟩⟩⟩⟩⟩⟩⟩ (lp91_34 _ c4 (T % k33) (by rw [Nat.sub_self]; rfl) (by first | assumption | omega) (by assumption) (Nat.lt_succ_self _))
          exact J_sub (L' := [some (.ref 19), some (.int (nI q1)), some (.int c), some (.int (nI q9)), some (.int (nI 0)), none, none, none]) ⟨rfl, ⟨rfl, ⟨rfl, ⟨rfl, ⟨rfl, trivial⟩⟩⟩⟩⟩ (lp50_23 _ w22 nx 0 ⟨h19_22, h20_22, h21_22, h22_22, hbb_22, hbl_22, hb3_22⟩ hF22 gx (by intro p hp; omega) (by first | assumption | omega) (Nat.lt_succ_self _))
        · refine J_iconst (pc := 34) (v := nI 1) dX8_power_34 (by decide) ?_
          refine J_goto (pc := 35) (tgt := 39) dX8_power_35 (by decide) ?_
          refine J_callV0 (pc := 39) (M := mX8_power) (as := [.int (nI 0), .int (nI 1)]) dX8_power_39 fw_X8_isThrown fl_X8_35 fm_X8_isThrown fe_X8_isThrown h19 (by decide) rfl rfl rfl (c_X8_isThrown hs (d := d - 1) (Nat.le_trans (by decide) hdm) (w := w) (n := n) (mv := mv) (rw := rw) (nx := nx) (b := b) (bt := bt) (kn := kn) (en := en) (dn := dn) (rf := rf) (kk := kk) (th := th) ⟨h19, h20, h21, h22, hbb, hbl, hb3⟩ hn1 hn2 gm gr gx 0 1 (by first | assumption | omega) (by first | assumption | omega) (kc := 0) (ks := 0)) hdp (st := []) (Nat.le_of_ble_eq_true rfl) rfl (kr_I fun v41 w41 hv41 hw41 => ?_) kx_I
          obtain ⟨hR41, hFc41⟩ := hw41
          obtain ⟨h19_41, h20_41, h21_41, h22_41, hbb_41, hbl_41, hb3_41⟩ := hR41
          have hF41 := hF.tr hFc41
          subst hv41
          show J X mX8_power d kc ks 42 [some (.ref 19), some (.int (nI q1)), some (.int c), some (.int (nI q9)), none, none, none, none] [.int (nI 1)] w41 _
          refine J_if_eqN (pc := 42) (tgt := 47) dX8_power_42 (by decide) (by decide) (fun h => absurd h (by decide)) (fun _ => ?_)
          refine J_iconst (pc := 45) (v := nI 0) dX8_power_45 (by decide) ?_
          exact J_iret (pc := 46) dX8_power_46 rfl (⟨mv, nx, kn, dn, nI (tW 0 1), ⟨h19_41, h20_41, h21_41, h22_41, hbb_41, hbl_41, hb3_41⟩, hF41, gm, gx, (by first | assumption | exact PM_st hn2 (by assumption) (by assumption) (by assumption)), (by first | assumption | exact Or.inl rfl), (by first | exact Or.inl ⟨rfl, fun g => (by first | exact ne_isN (by assumption) g | exact ne_isN (by assumption) g.1 | exact ne_isN (by assumption) g.2 | exact ne_isN (by assumption) g.2.1 | exact ne_isN (by assumption) g.2.2 | exact ne_isN (by assumption) g.2.2.1 | exact ne_isN (by assumption) g.2.2.2), rfl, rfl, rfl⟩ | exact Or.inr (Or.inl ⟨rfl, ⟨isN_of (by first | assumption | omega), isN_of (by first | assumption | omega)⟩, (by first | exact fun g => Int32.not_lt.mpr g.1 (by assumption) | exact fun g => Int32.not_le.mpr (by assumption) g.2 | exact fun g => Int32.not_lt.mpr g.2 (by assumption) | exact fun g => absurd g.2 (by assumption)), rfl, rfl, rfl⟩) | exact Or.inr (Or.inr (⟨rfl, ⟨_, _, rfl, rfl, by omega, by omega, hc1, hc2, ACT_of hn2 hgt (fun p hp => (hv50_0 p (by omega)).trans (by rw [hTe])), congrArg nI (nu_congr (fun p hp => (hv50_0 p (by omega)).trans (by rw [hTe])))⟩, rfl, rfl⟩)))⟩)
set_option maxRecDepth 100000 in
set_option maxHeartbeats 4000000 in
theorem c_X8_match_ate {X : jX} (hs : X.1.stackTraces = false) {d : Nat} (hd : 2 ≤ d) {n : Nat} {mv rw nx : Nat → Nat} {b : Nat} {bt : List Int32} {kn en dn rf kk th : Int32} {w : List jC} (hR : RM n mv rw nx b bt kn en dn rf kk th w) (hn1 : 2 ≤ n) (hn2 : n ≤ 7) (gm : ∀ i, mv i < 7) (gr : ∀ i, rw i < 7) (gx : ∀ i, nx i < 7) (a : Int32) (c : Int32) (e : Int32) (hy0 : PM n mv) (hy1 : KB n kn bt) {kc ks : Nat} : jMet X mX8_match d kc ks [.ref 19, .int a, .int c, .int e] w (pJ (fun v w' => ∃ (mv' : Nat → Nat), ∃ (rw' : Nat → Nat), ∃ (kn' : Int32), ∃ (dn' : Int32), ∃ (rf' : Int32), ∃ (th' : Int32), RM n mv' rw' nx b bt kn' en dn' rf' kk th' w' ∧ FR b b w w' ∧ (∀ i, mv' i < 7) ∧ (∀ i, rw' i < 7) ∧ PM n mv' ∧ KB n kn' bt ∧ ((th' = nI 1 ∧ ¬ (isN a 6 ∧ isN c 6 ∧ isN e 6) ∧ mv' = mv ∧ kn' = kn ∧ dn' = dn ∧ rf' = rf) ∨ (th' = nI 0 ∧ (∃ a1 b1 c1 k : Nat, a = nI a1 ∧ c = nI b1 ∧ e = nI c1 ∧ a1 < 6 ∧ b1 < 6 ∧ c1 < 6 ∧ k < fc n ∧ RNr n mv a1 b1 (rwF n k) ∧ (∀ j, j < k → ¬ RNr n mv a1 b1 (rwF n j)) ∧ ACT n mv c1 (rwF n k) mv' ∧ v = nI (nuF (rwF n k) 0 n n)) ∧ kn' = (-1) ∧ dn' = (dn + nI 1) ∧ rf' = rf) ∨ (th' = nI 0 ∧ (∃ a1 b1 c1 : Nat, a = nI a1 ∧ c = nI b1 ∧ e = nI c1 ∧ a1 < 6 ∧ b1 < 6 ∧ c1 < 6 ∧ (∀ k, k < fc n → ¬ RNr n mv a1 b1 (rwF n k)) ∧ v = (-9)) ∧ mv' = mv ∧ kn' = kn ∧ dn' = dn ∧ rf' = (rf + nI 1))))) := by
  refine jMet_of hs (by decide +kernel) (Nat.le_of_ble_eq_true rfl) (L := [some (.ref 19), some (.int a), some (.int c), some (.int e), none, none, none]) rfl ?_
  have hdm : 1 ≤ d - 1 := by omega
  have hdp : d - 1 + 1 ≤ d := by omega
  have hfc := fc_7 hn2
  have hfp := fc_pos n
  obtain ⟨h19, h20, h21, h22, hbb, hbl, hb3⟩ := hR
  have hF : FR b b w w := FR.rf
  refine J_aload_n (pc := 0) dX8_match_0 rfl rfl rfl ?_
  refine J_iload_n (pc := 1) dX8_match_1 rfl rfl ?_
  refine J_callS0 (pc := 2) (M := mX8_match) (as := [.int a]) dX8_match_2 fw_X8_isCell fl_X8_108 fs_X8_isCell rfl (c_X8_isCell hs (d := d - 1) (Nat.le_trans (by decide) hdm) (w := w) a (kc := 0) (ks := 0)) hdp (st := [.ref 19]) (Nat.le_of_ble_eq_true rfl) rfl (kr_P fun v1 hv1 => ?_) kx_I
  rcases hv1 with ⟨rfl, hk1_0⟩ | ⟨q1, rfl, hk1_0, rfl⟩
  · refine J_if_eqN (pc := 5) (tgt := 22) dX8_match_5 (by decide) (by decide) (fun _ => ?_) (fun h => absurd h (by decide))
    refine J_iconst (pc := 22) (v := nI 1) dX8_match_22 (by decide) ?_
    refine J_goto (pc := 23) (tgt := 27) dX8_match_23 (by decide) ?_
    refine J_callV0 (pc := 27) (M := mX8_match) (as := [.int (nI 1)]) dX8_match_27 fw_X8_isThrown_ fl_X8_105 fm_X8_isThrown_ fe_X8_isThrown_ h19 (by decide) rfl rfl rfl (c_X8_isThrown_ hs (d := d - 1) (Nat.le_trans (by decide) hdm) (w := w) (n := n) (mv := mv) (rw := rw) (nx := nx) (b := b) (bt := bt) (kn := kn) (en := en) (dn := dn) (rf := rf) (kk := kk) (th := th) ⟨h19, h20, h21, h22, hbb, hbl, hb3⟩ hn1 hn2 gm gr gx 1 (by first | assumption | omega) (kc := 0) (ks := 0)) hdp (st := []) (Nat.le_of_ble_eq_true rfl) rfl (kr_I fun v2 w2 hv2 hw2 => ?_) kx_I
    obtain ⟨hR2, hFc2⟩ := hw2
    obtain ⟨h19_2, h20_2, h21_2, h22_2, hbb_2, hbl_2, hb3_2⟩ := hR2
    have hF2 := hF.tr hFc2
    subst hv2
    show J X mX8_match d kc ks 30 [some (.ref 19), some (.int a), some (.int c), some (.int e), none, none, none] [.int (nI 1)] w2 _
    refine J_if_eqN (pc := 30) (tgt := 35) dX8_match_30 (by decide) (by decide) (fun h => absurd h (by decide)) (fun _ => ?_)
    refine J_iconst (pc := 33) (v := nI 0) dX8_match_33 (by decide) ?_
    exact J_iret (pc := 34) dX8_match_34 rfl (⟨mv, rw, kn, dn, rf, nI (tW 1 0), ⟨h19_2, h20_2, h21_2, h22_2, hbb_2, hbl_2, hb3_2⟩, hF2, gm, gr, (by first | assumption | exact PM_st hn2 (by assumption) (by assumption) (by assumption)), (by first | assumption | exact Or.inl rfl), (by first | exact Or.inl ⟨rfl, fun g => (by first | exact ne_isN (by assumption) g | exact ne_isN (by assumption) g.1 | exact ne_isN (by assumption) g.2 | exact ne_isN (by assumption) g.2.1 | exact ne_isN (by assumption) g.2.2 | exact ne_isN (by assumption) g.2.2.1 | exact ne_isN (by assumption) g.2.2.2), rfl, rfl, rfl, rfl⟩ | exact Or.inr (Or.inl ⟨rfl, ⟨_, _, _, _, rfl, rfl, rfl, by omega, by omega, by omega, by omega, RQ_end hy0 (by omega) hrow hv63_1 (by assumption) (by omega), hv38_1, ACT_of hn2 hgt (fun p hp => hrow p hp), congrArg nI (nu_congr (fun p hp => hrow p hp))⟩, rfl, rfl, rfl⟩) | exact Or.inr (Or.inr (⟨rfl, ⟨_, _, _, rfl, rfl, rfl, by omega, by omega, by omega, fun k hk => hv38_1 k (by omega), rfl⟩, rfl, rfl, rfl, rfl⟩)) | (exfalso; omega))⟩)
  · refine J_if_eqN (pc := 5) (tgt := 22) dX8_match_5 (by decide) (by decide) (fun h => absurd h (by decide)) (fun _ => ?_)
    refine J_iload_n (pc := 8) dX8_match_8 rfl rfl ?_
    refine J_callS0 (pc := 9) (M := mX8_match) (as := [.int c]) dX8_match_9 fw_X8_isCell fl_X8_108 fs_X8_isCell rfl (c_X8_isCell hs (d := d - 1) (Nat.le_trans (by decide) hdm) (w := w) c (kc := 0) (ks := 0)) hdp (st := [.ref 19]) (Nat.le_of_ble_eq_true rfl) rfl (kr_P fun v3 hv3 => ?_) kx_I
    rcases hv3 with ⟨rfl, hk3_0⟩ | ⟨q3, rfl, hk3_0, rfl⟩
    · refine J_if_eqN (pc := 12) (tgt := 22) dX8_match_12 (by decide) (by decide) (fun _ => ?_) (fun h => absurd h (by decide))
      refine J_iconst (pc := 22) (v := nI 1) dX8_match_22 (by decide) ?_
      refine J_goto (pc := 23) (tgt := 27) dX8_match_23 (by decide) ?_
      refine J_callV0 (pc := 27) (M := mX8_match) (as := [.int (nI 1)]) dX8_match_27 fw_X8_isThrown_ fl_X8_105 fm_X8_isThrown_ fe_X8_isThrown_ h19 (by decide) rfl rfl rfl (c_X8_isThrown_ hs (d := d - 1) (Nat.le_trans (by decide) hdm) (w := w) (n := n) (mv := mv) (rw := rw) (nx := nx) (b := b) (bt := bt) (kn := kn) (en := en) (dn := dn) (rf := rf) (kk := kk) (th := th) ⟨h19, h20, h21, h22, hbb, hbl, hb3⟩ hn1 hn2 gm gr gx 1 (by first | assumption | omega) (kc := 0) (ks := 0)) hdp (st := []) (Nat.le_of_ble_eq_true rfl) rfl (kr_I fun v4 w4 hv4 hw4 => ?_) kx_I
      obtain ⟨hR4, hFc4⟩ := hw4
      obtain ⟨h19_4, h20_4, h21_4, h22_4, hbb_4, hbl_4, hb3_4⟩ := hR4
      have hF4 := hF.tr hFc4
      subst hv4
      show J X mX8_match d kc ks 30 [some (.ref 19), some (.int (nI q1)), some (.int c), some (.int e), none, none, none] [.int (nI 1)] w4 _
      refine J_if_eqN (pc := 30) (tgt := 35) dX8_match_30 (by decide) (by decide) (fun h => absurd h (by decide)) (fun _ => ?_)
      refine J_iconst (pc := 33) (v := nI 0) dX8_match_33 (by decide) ?_
      exact J_iret (pc := 34) dX8_match_34 rfl (⟨mv, rw, kn, dn, rf, nI (tW 1 0), ⟨h19_4, h20_4, h21_4, h22_4, hbb_4, hbl_4, hb3_4⟩, hF4, gm, gr, (by first | assumption | exact PM_st hn2 (by assumption) (by assumption) (by assumption)), (by first | assumption | exact Or.inl rfl), (by first | exact Or.inl ⟨rfl, fun g => (by first | exact ne_isN (by assumption) g | exact ne_isN (by assumption) g.1 | exact ne_isN (by assumption) g.2 | exact ne_isN (by assumption) g.2.1 | exact ne_isN (by assumption) g.2.2 | exact ne_isN (by assumption) g.2.2.1 | exact ne_isN (by assumption) g.2.2.2), rfl, rfl, rfl, rfl⟩ | exact Or.inr (Or.inl ⟨rfl, ⟨_, _, _, _, rfl, rfl, rfl, by omega, by omega, by omega, by omega, RQ_end hy0 (by omega) hrow hv63_1 (by assumption) (by omega), hv38_1, ACT_of hn2 hgt (fun p hp => hrow p hp), congrArg nI (nu_congr (fun p hp => hrow p hp))⟩, rfl, rfl, rfl⟩) | exact Or.inr (Or.inr (⟨rfl, ⟨_, _, _, rfl, rfl, rfl, by omega, by omega, by omega, fun k hk => hv38_1 k (by omega), rfl⟩, rfl, rfl, rfl, rfl⟩)) | (exfalso; omega))⟩)
    · refine J_if_eqN (pc := 12) (tgt := 22) dX8_match_12 (by decide) (by decide) (fun h => absurd h (by decide)) (fun _ => ?_)
      refine J_iload_n (pc := 15) dX8_match_15 rfl rfl ?_
      refine J_callS0 (pc := 16) (M := mX8_match) (as := [.int e]) dX8_match_16 fw_X8_isCell fl_X8_108 fs_X8_isCell rfl (c_X8_isCell hs (d := d - 1) (Nat.le_trans (by decide) hdm) (w := w) e (kc := 0) (ks := 0)) hdp (st := [.ref 19]) (Nat.le_of_ble_eq_true rfl) rfl (kr_P fun v5 hv5 => ?_) kx_I
      rcases hv5 with ⟨rfl, hk5_0⟩ | ⟨q5, rfl, hk5_0, rfl⟩
      · refine J_if_neN (pc := 19) (tgt := 26) dX8_match_19 (by decide) (by decide) (fun h => absurd h (by decide)) (fun _ => ?_)
        refine J_iconst (pc := 22) (v := nI 1) dX8_match_22 (by decide) ?_
        refine J_goto (pc := 23) (tgt := 27) dX8_match_23 (by decide) ?_
        refine J_callV0 (pc := 27) (M := mX8_match) (as := [.int (nI 1)]) dX8_match_27 fw_X8_isThrown_ fl_X8_105 fm_X8_isThrown_ fe_X8_isThrown_ h19 (by decide) rfl rfl rfl (c_X8_isThrown_ hs (d := d - 1) (Nat.le_trans (by decide) hdm) (w := w) (n := n) (mv := mv) (rw := rw) (nx := nx) (b := b) (bt := bt) (kn := kn) (en := en) (dn := dn) (rf := rf) (kk := kk) (th := th) ⟨h19, h20, h21, h22, hbb, hbl, hb3⟩ hn1 hn2 gm gr gx 1 (by first | assumption | omega) (kc := 0) (ks := 0)) hdp (st := []) (Nat.le_of_ble_eq_true rfl) rfl (kr_I fun v6 w6 hv6 hw6 => ?_) kx_I
        obtain ⟨hR6, hFc6⟩ := hw6
        obtain ⟨h19_6, h20_6, h21_6, h22_6, hbb_6, hbl_6, hb3_6⟩ := hR6
        have hF6 := hF.tr hFc6
        subst hv6
        show J X mX8_match d kc ks 30 [some (.ref 19), some (.int (nI q1)), some (.int (nI q3)), some (.int e), none, none, none] [.int (nI 1)] w6 _
        refine J_if_eqN (pc := 30) (tgt := 35) dX8_match_30 (by decide) (by decide) (fun h => absurd h (by decide)) (fun _ => ?_)
        refine J_iconst (pc := 33) (v := nI 0) dX8_match_33 (by decide) ?_
        exact J_iret (pc := 34) dX8_match_34 rfl (⟨mv, rw, kn, dn, rf, nI (tW 1 0), ⟨h19_6, h20_6, h21_6, h22_6, hbb_6, hbl_6, hb3_6⟩, hF6, gm, gr, (by first | assumption | exact PM_st hn2 (by assumption) (by assumption) (by assumption)), (by first | assumption | exact Or.inl rfl), (by first | exact Or.inl ⟨rfl, fun g => (by first | exact ne_isN (by assumption) g | exact ne_isN (by assumption) g.1 | exact ne_isN (by assumption) g.2 | exact ne_isN (by assumption) g.2.1 | exact ne_isN (by assumption) g.2.2 | exact ne_isN (by assumption) g.2.2.1 | exact ne_isN (by assumption) g.2.2.2), rfl, rfl, rfl, rfl⟩ | exact Or.inr (Or.inl ⟨rfl, ⟨_, _, _, _, rfl, rfl, rfl, by omega, by omega, by omega, by omega, RQ_end hy0 (by omega) hrow hv63_1 (by assumption) (by omega), hv38_1, ACT_of hn2 hgt (fun p hp => hrow p hp), congrArg nI (nu_congr (fun p hp => hrow p hp))⟩, rfl, rfl, rfl⟩) | exact Or.inr (Or.inr (⟨rfl, ⟨_, _, _, rfl, rfl, rfl, by omega, by omega, by omega, fun k hk => hv38_1 k (by omega), rfl⟩, rfl, rfl, rfl, rfl⟩)) | (exfalso; omega))⟩)
      · refine J_if_neN (pc := 19) (tgt := 26) dX8_match_19 (by decide) (by decide) (fun _ => ?_) (fun h => absurd h (by decide))
        refine J_iconst (pc := 26) (v := nI 0) dX8_match_26 (by decide) ?_
        refine J_callV0 (pc := 27) (M := mX8_match) (as := [.int (nI 0)]) dX8_match_27 fw_X8_isThrown_ fl_X8_105 fm_X8_isThrown_ fe_X8_isThrown_ h19 (by decide) rfl rfl rfl (c_X8_isThrown_ hs (d := d - 1) (Nat.le_trans (by decide) hdm) (w := w) (n := n) (mv := mv) (rw := rw) (nx := nx) (b := b) (bt := bt) (kn := kn) (en := en) (dn := dn) (rf := rf) (kk := kk) (th := th) ⟨h19, h20, h21, h22, hbb, hbl, hb3⟩ hn1 hn2 gm gr gx 0 (by first | assumption | omega) (kc := 0) (ks := 0)) hdp (st := []) (Nat.le_of_ble_eq_true rfl) rfl (kr_I fun v7 w7 hv7 hw7 => ?_) kx_I
        obtain ⟨hR7, hFc7⟩ := hw7
        obtain ⟨h19_7, h20_7, h21_7, h22_7, hbb_7, hbl_7, hb3_7⟩ := hR7
        have hF7 := hF.tr hFc7
        subst hv7
        show J X mX8_match d kc ks 30 [some (.ref 19), some (.int (nI q1)), some (.int (nI q3)), some (.int (nI q5)), none, none, none] [.int (nI 0)] w7 _
        refine J_if_eqN (pc := 30) (tgt := 35) dX8_match_30 (by decide) (by decide) (fun _ => ?_) (fun h => absurd h (by decide))
        refine J_iconst (pc := 35) (v := nI 0) dX8_match_35 (by decide) ?_
        refine J_istore (pc := 36) dX8_match_36 (by decide) rfl ?_
        show J X mX8_match d kc ks 38 [some (.ref 19), some (.int (nI q1)), some (.int (nI q3)), some (.int (nI q5)), some (.int (nI 0)), none, none] [] w7 _
        have lp38_8 : ∀ (fuel : Nat) (w9 : List jC) (rw_38 : Nat → Nat) (c4 : Nat), (RM n mv rw_38 nx b bt kn en dn rf kk (nI (tW 0 0)) w9) → (FR b b w w9) → (∀ i, rw_38 i < 7) → (c4 ≤ fc n) → (∀ j, j < c4 → ¬ RNr n mv q1 q3 (rwF n j)) → (fc n - c4 < fuel) → J X mX8_match d kc ks 38 [some (.ref 19), some (.int (nI q1)), some (.int (nI q3)), some (.int (nI q5)), some (.int (nI c4)), none, none] [] w9 (pJ (fun v w' => ∃ (mv' : Nat → Nat), ∃ (rw' : Nat → Nat), ∃ (kn' : Int32), ∃ (dn' : Int32), ∃ (rf' : Int32), ∃ (th' : Int32), RM n mv' rw' nx b bt kn' en dn' rf' kk th' w' ∧ FR b b w w' ∧ (∀ i, mv' i < 7) ∧ (∀ i, rw' i < 7) ∧ PM n mv' ∧ KB n kn' bt ∧ ((th' = nI 1 ∧ ¬ (isN (nI q1) 6 ∧ isN (nI q3) 6 ∧ isN (nI q5) 6) ∧ mv' = mv ∧ kn' = kn ∧ dn' = dn ∧ rf' = rf) ∨ (th' = nI 0 ∧ (∃ a1 b1 c1 k : Nat, (nI q1) = nI a1 ∧ (nI q3) = nI b1 ∧ (nI q5) = nI c1 ∧ a1 < 6 ∧ b1 < 6 ∧ c1 < 6 ∧ k < fc n ∧ RNr n mv a1 b1 (rwF n k) ∧ (∀ j, j < k → ¬ RNr n mv a1 b1 (rwF n j)) ∧ ACT n mv c1 (rwF n k) mv' ∧ v = nI (nuF (rwF n k) 0 n n)) ∧ kn' = (-1) ∧ dn' = (dn + nI 1) ∧ rf' = rf) ∨ (th' = nI 0 ∧ (∃ a1 b1 c1 : Nat, (nI q1) = nI a1 ∧ (nI q3) = nI b1 ∧ (nI q5) = nI c1 ∧ a1 < 6 ∧ b1 < 6 ∧ c1 < 6 ∧ (∀ k, k < fc n → ¬ RNr n mv a1 b1 (rwF n k)) ∧ v = (-9)) ∧ mv' = mv ∧ kn' = kn ∧ dn' = dn ∧ rf' = (rf + nI 1))))) := by
          intro fuellp38_8
          induction fuellp38_8 with
          | zero => intros; omega
          | succ fuellp38_8 ihlp38_8 =>
            intro w9 rw_38 c4 hR10 hF11 gr12 hv38_0 hv38_1 hf13
            obtain ⟨h19_14, h20_14, h21_14, h22_14, hb_14, hbl_14, hb3_14⟩ := hR10
            refine J_iload (pc := 38) dX8_match_38 rfl ?_
            refine J_aload_n (pc := 40) dX8_match_40 rfl rfl rfl ?_
            refine J_callV0 (pc := 41) (M := mX8_match) (as := []) dX8_match_41 fw_X8_all fl_X8_65 fm_X8_all fe_X8_all h19_14 (by decide) rfl rfl rfl (c_X8_all hs (d := d - 1) (Nat.le_trans (by decide) hdm) (w := w9) (n := n) (mv := mv) (rw := rw_38) (nx := nx) (b := b) (bt := bt) (kn := kn) (en := en) (dn := dn) (rf := rf) (kk := kk) (th := nI (tW 0 0)) ⟨h19_14, h20_14, h21_14, h22_14, hb_14, hbl_14, hb3_14⟩ hn1 hn2 gm gr12 gx  (kc := 0) (ks := 0)) hdp (st := [.int (nI c4)]) (Nat.le_of_ble_eq_true rfl) rfl (kr_P fun v15 hv15 => ?_) kx_I
            subst hv15
            refine J_icmp_geN (pc := 44) (tgt := 138) dX8_match_44 (by decide) (by omega) (by omega) (fun ht16 => ?_) (fun hf17 => ?_)
            · refine J_aload_n (pc := 138) dX8_match_138 rfl rfl rfl ?_
              refine J_callV0 (pc := 139) (M := mX8_match) (as := []) dX8_match_139 fw_X8_no fl_X8_131 fm_X8_no fe_X8_no h19_14 (by decide) rfl rfl rfl (c_X8_no hs (d := d - 1) (Nat.le_trans (by decide) hdm) (w := w9) (n := n) (mv := mv) (rw := rw_38) (nx := nx) (b := b) (bt := bt) (kn := kn) (en := en) (dn := dn) (rf := rf) (kk := kk) (th := nI (tW 0 0)) ⟨h19_14, h20_14, h21_14, h22_14, hb_14, hbl_14, hb3_14⟩ hn1 hn2 gm gr12 gx  (kc := 0) (ks := 0)) hdp (st := []) (Nat.le_of_ble_eq_true rfl) rfl (kr_I fun v18 w18 hv18 hw18 => ?_) kx_I
              obtain ⟨hR18, hFc18⟩ := hw18
              obtain ⟨h19_18, h20_18, h21_18, h22_18, hbb_18, hbl_18, hb3_18⟩ := hR18
              have hF18 := hF11.tr hFc18
              subst hv18
              exact J_iret (pc := 142) dX8_match_142 rfl (⟨mv, rw_38, kn, dn, (rf + nI 1), nI (tW 0 0), ⟨h19_18, h20_18, h21_18, h22_18, hbb_18, hbl_18, hb3_18⟩, hF18, gm, gr12, (by first | assumption | exact PM_st hn2 (by assumption) (by assumption) (by assumption)), (by first | assumption | exact Or.inl rfl), (by first | exact Or.inl ⟨rfl, fun g => (by first | exact ne_isN (by assumption) g | exact ne_isN (by assumption) g.1 | exact ne_isN (by assumption) g.2 | exact ne_isN (by assumption) g.2.1 | exact ne_isN (by assumption) g.2.2 | exact ne_isN (by assumption) g.2.2.1 | exact ne_isN (by assumption) g.2.2.2), rfl, rfl, rfl, rfl⟩ | exact Or.inr (Or.inl ⟨rfl, ⟨_, _, _, _, rfl, rfl, rfl, by omega, by omega, by omega, by omega, RQ_end hy0 (by omega) hrow hv63_1 (by assumption) (by omega), hv38_1, ACT_of hn2 hgt (fun p hp => hrow p hp), congrArg nI (nu_congr (fun p hp => hrow p hp))⟩, rfl, rfl, rfl⟩) | exact Or.inr (Or.inr (⟨rfl, ⟨_, _, _, rfl, rfl, rfl, by omega, by omega, by omega, fun k hk => hv38_1 k (by omega), rfl⟩, rfl, rfl, rfl, rfl⟩)) | (exfalso; omega))⟩)
            · refine J_aload_n (pc := 47) dX8_match_47 rfl rfl rfl ?_
              refine J_iload (pc := 48) dX8_match_48 rfl ?_
              refine J_aload_n (pc := 50) dX8_match_50 rfl rfl rfl ?_
              refine J_get (pc := 51) (k := 2) dX8_match_51 kC9 (by decide) ff_X8_17 h19_14 rfl ?_
              refine J_callV0 (pc := 54) (M := mX8_match) (as := [.int (nI c4), .ref 21]) dX8_match_54 fw_X8_rowOf fl_X8_78 fm_X8_rowOf fe_X8_rowOf h19_14 (by decide) rfl rfl rfl (c_X8_rowOf hs (d := d - 1) (Nat.le_trans (by decide) hdm) (w := w9) (n := n) (mv := mv) (rw := rw_38) (nx := nx) (b := b) (bt := bt) (kn := kn) (en := en) (dn := dn) (rf := rf) (kk := kk) (th := nI (tW 0 0)) ⟨h19_14, h20_14, h21_14, h22_14, hb_14, hbl_14, hb3_14⟩ hn1 hn2 gm gr12 gx c4 (by first | assumption | omega) (kc := 0) (ks := 0)) hdp (st := []) (Nat.le_of_ble_eq_true rfl) rfl (kr_V fun w19 hw19 => ?_) kx_V
              obtain ⟨rw19, hR19, hFc19, hgrw19, hp19_0⟩ := hw19
              obtain ⟨h19_19, h20_19, h21_19, h22_19, hbb_19, hbl_19, hb3_19⟩ := hR19
              have hF19 := hF11.tr hFc19
              have hPr := Pn_row (by omega) hp19_0
              have hrow := hp19_0
              refine J_iconst (pc := 57) (v := nI 1) dX8_match_57 (by decide) ?_
              refine J_istore (pc := 58) dX8_match_58 (by decide) rfl ?_
              show J X mX8_match d kc ks 60 [some (.ref 19), some (.int (nI q1)), some (.int (nI q3)), some (.int (nI q5)), some (.int (nI c4)), some (.int (nI 1)), none] [] w19 _
              refine J_iconst (pc := 60) (v := nI 0) dX8_match_60 (by decide) ?_
              refine J_istore (pc := 61) dX8_match_61 (by decide) rfl ?_
              show J X mX8_match d kc ks 63 [some (.ref 19), some (.int (nI q1)), some (.int (nI q3)), some (.int (nI q5)), some (.int (nI c4)), some (.int (nI 1)), some (.int (nI 0))] [] w19 _
              have lp63_20 : ∀ (fuel : Nat) (y5 : Nat) (c6 : Nat), (y5 < 2) → (RQ n mv rw19 q1 q3 c6 y5) → (c6 ≤ n) → (n - c6 < fuel) → J X mX8_match d kc ks 63 [some (.ref 19), some (.int (nI q1)), some (.int (nI q3)), some (.int (nI q5)), some (.int (nI c4)), some (.int (nI y5)), some (.int (nI c6))] [] w19 (pJ (fun v w' => ∃ (mv' : Nat → Nat), ∃ (rw' : Nat → Nat), ∃ (kn' : Int32), ∃ (dn' : Int32), ∃ (rf' : Int32), ∃ (th' : Int32), RM n mv' rw' nx b bt kn' en dn' rf' kk th' w' ∧ FR b b w w' ∧ (∀ i, mv' i < 7) ∧ (∀ i, rw' i < 7) ∧ PM n mv' ∧ KB n kn' bt ∧ ((th' = nI 1 ∧ ¬ (isN (nI q1) 6 ∧ isN (nI q3) 6 ∧ isN (nI q5) 6) ∧ mv' = mv ∧ kn' = kn ∧ dn' = dn ∧ rf' = rf) ∨ (th' = nI 0 ∧ (∃ a1 b1 c1 k : Nat, (nI q1) = nI a1 ∧ (nI q3) = nI b1 ∧ (nI q5) = nI c1 ∧ a1 < 6 ∧ b1 < 6 ∧ c1 < 6 ∧ k < fc n ∧ RNr n mv a1 b1 (rwF n k) ∧ (∀ j, j < k → ¬ RNr n mv a1 b1 (rwF n j)) ∧ ACT n mv c1 (rwF n k) mv' ∧ v = nI (nuF (rwF n k) 0 n n)) ∧ kn' = (-1) ∧ dn' = (dn + nI 1) ∧ rf' = rf) ∨ (th' = nI 0 ∧ (∃ a1 b1 c1 : Nat, (nI q1) = nI a1 ∧ (nI q3) = nI b1 ∧ (nI q5) = nI c1 ∧ a1 < 6 ∧ b1 < 6 ∧ c1 < 6 ∧ (∀ k, k < fc n → ¬ RNr n mv a1 b1 (rwF n k)) ∧ v = (-9)) ∧ mv' = mv ∧ kn' = kn ∧ dn' = dn ∧ rf' = (rf + nI 1))))) := by
                intro fuellp63_20
                induction fuellp63_20 with
                | zero => intros; omega
                | succ fuellp63_20 ihlp63_20 =>
                  intro y5 c6 hv63_0 hv63_1 hv63_2 hf21
                  refine J_iload (pc := 63) dX8_match_63 rfl ?_
                  refine J_aload_n (pc := 65) dX8_match_65 rfl rfl rfl ?_
                  refine J_get (pc := 66) (k := 0) dX8_match_66 kC9 (by decide) ff_X8_7 h19_19 rfl ?_
                  refine J_icmp_geN (pc := 69) (tgt := 117) dX8_match_69 (by decide) (by omega) (by omega) (fun ht22 => ?_) (fun hf23 => ?_)
                  · refine J_iload (pc := 117) dX8_match_117 rfl ?_
                    refine J_if_eqN (pc := 119) (tgt := 132) dX8_match_119 (by decide) (by omega) (fun ht24 => ?_) (fun hf25 => ?_)
                    · refine J_iincN (pc := 132) (b := 1) dX8_match_132 rfl (by decide) (by decide) rfl ?_
                      show J X mX8_match d kc ks 135 [some (.ref 19), some (.int (nI q1)), some (.int (nI q3)), some (.int (nI q5)), some (.int (nI (c4 + 1))), some (.int (nI y5)), some (.int (nI c6))] [] w19 _
                      refine J_goto (pc := 135) (tgt := 38) dX8_match_135 (by decide) ?_
                      exact J_sub (L' := [some (.ref 19), some (.int (nI q1)), some (.int (nI q3)), some (.int (nI q5)), some (.int (nI (c4 + 1))), none, none]) ⟨rfl, ⟨rfl, ⟨rfl, ⟨rfl, ⟨rfl, trivial⟩⟩⟩⟩⟩ (ihlp38_8 w19 rw19 (c4 + 1) ⟨h19_19, h20_19, h21_19, h22_19, hbb_19, hbl_19, hb3_19⟩ hF19 hgrw19 (by first | assumption | omega) (by exact RQ_nx hv38_1 (RQ_no hy0 (by omega) hrow hv63_1 (by assumption))) (by omega))
                    · refine J_aload_n (pc := 122) dX8_match_122 rfl rfl rfl ?_
                      refine J_iload_n (pc := 123) dX8_match_123 rfl rfl ?_
                      refine J_aload_n (pc := 124) dX8_match_124 rfl rfl rfl ?_
                      refine J_get (pc := 125) (k := 2) dX8_match_125 kC9 (by decide) ff_X8_17 h19_19 rfl ?_
                      refine J_callV0 (pc := 128) (M := mX8_match) (as := [.int (nI q5), .ref 21]) dX8_match_128 fw_X8_get fl_X8_111 fm_X8_get fe_X8_get h19_19 (by decide) rfl rfl rfl (c_X8_get_at21 hs (d := d - 1) (Nat.le_trans (by decide) hdm) (w := w19) (n := n) (mv := mv) (rw := rw19) (nx := nx) (b := b) (bt := bt) (kn := kn) (en := en) (dn := dn) (rf := rf) (kk := kk) (th := nI (tW 0 0)) ⟨h19_19, h20_19, h21_19, h22_19, hbb_19, hbl_19, hb3_19⟩ hn1 hn2 gm hgrw19 gx q5 (by first | assumption | omega) (kc := 0) (ks := 0)) hdp (st := []) (Nat.le_of_ble_eq_true rfl) rfl (kr_I fun v26 w26 hv26 hw26 => ?_) kx_I
                      obtain ⟨mv26, hR26, hFc26, hgmv26, hp26_0⟩ := hw26
                      obtain ⟨h19_26, h20_26, h21_26, h22_26, hbb_26, hbl_26, hb3_26⟩ := hR26
                      have hF26 := hF19.tr hFc26
                      subst hv26
                      have hgt := hp26_0
                      exact J_iret (pc := 131) dX8_match_131 rfl (⟨mv26, rw19, (-1), (dn + nI 1), rf, nI (tW 0 0), ⟨h19_26, h20_26, h21_26, h22_26, hbb_26, hbl_26, hb3_26⟩, hF26, hgmv26, hgrw19, (by first | assumption | exact PM_st hn2 (by assumption) (by assumption) (by assumption)), (by first | assumption | exact Or.inl rfl), (by first | exact Or.inl ⟨rfl, fun g => (by first | exact ne_isN (by assumption) g | exact ne_isN (by assumption) g.1 | exact ne_isN (by assumption) g.2 | exact ne_isN (by assumption) g.2.1 | exact ne_isN (by assumption) g.2.2 | exact ne_isN (by assumption) g.2.2.1 | exact ne_isN (by assumption) g.2.2.2), rfl, rfl, rfl, rfl⟩ | exact Or.inr (Or.inl ⟨rfl, ⟨_, _, _, _, rfl, rfl, rfl, by omega, by omega, by omega, by omega, RQ_end hy0 (by omega) hrow hv63_1 (by assumption) (by omega), hv38_1, ACT_of hn2 hgt (fun p hp => hrow p hp), congrArg nI (nu_congr (fun p hp => hrow p hp))⟩, rfl, rfl, rfl⟩) | exact Or.inr (Or.inr (⟨rfl, ⟨_, _, _, rfl, rfl, rfl, by omega, by omega, by omega, fun k hk => hv38_1 k (by omega), rfl⟩, rfl, rfl, rfl, rfl⟩)) | (exfalso; omega))⟩)
                  · refine J_iload (pc := 72) dX8_match_72 rfl ?_
                    refine J_if_eqN (pc := 74) (tgt := 117) dX8_match_74 (by decide) (by omega) (fun ht27 => ?_) (fun hf28 => ?_)
                    · refine J_iload (pc := 117) dX8_match_117 rfl ?_
                      refine J_if_eqN (pc := 119) (tgt := 132) dX8_match_119 (by decide) (by omega) (fun ht29 => ?_) (fun hf30 => ?_)
                      · refine J_iincN (pc := 132) (b := 1) dX8_match_132 rfl (by decide) (by decide) rfl ?_
                        show J X mX8_match d kc ks 135 [some (.ref 19), some (.int (nI q1)), some (.int (nI q3)), some (.int (nI q5)), some (.int (nI (c4 + 1))), some (.int (nI y5)), some (.int (nI c6))] [] w19 _
                        refine J_goto (pc := 135) (tgt := 38) dX8_match_135 (by decide) ?_
                        exact J_sub (L' := [some (.ref 19), some (.int (nI q1)), some (.int (nI q3)), some (.int (nI q5)), some (.int (nI (c4 + 1))), none, none]) ⟨rfl, ⟨rfl, ⟨rfl, ⟨rfl, ⟨rfl, trivial⟩⟩⟩⟩⟩ (ihlp38_8 w19 rw19 (c4 + 1) ⟨h19_19, h20_19, h21_19, h22_19, hbb_19, hbl_19, hb3_19⟩ hF19 hgrw19 (by first | assumption | omega) (by exact RQ_nx hv38_1 (RQ_no hy0 (by omega) hrow hv63_1 (by assumption))) (by omega))
                      · refine J_aload_n (pc := 122) dX8_match_122 rfl rfl rfl ?_
                        refine J_iload_n (pc := 123) dX8_match_123 rfl rfl ?_
                        refine J_aload_n (pc := 124) dX8_match_124 rfl rfl rfl ?_
                        refine J_get (pc := 125) (k := 2) dX8_match_125 kC9 (by decide) ff_X8_17 h19_19 rfl ?_
                        refine J_callV0 (pc := 128) (M := mX8_match) (as := [.int (nI q5), .ref 21]) dX8_match_128 fw_X8_get fl_X8_111 fm_X8_get fe_X8_get h19_19 (by decide) rfl rfl rfl (c_X8_get_at21 hs (d := d - 1) (Nat.le_trans (by decide) hdm) (w := w19) (n := n) (mv := mv) (rw := rw19) (nx := nx) (b := b) (bt := bt) (kn := kn) (en := en) (dn := dn) (rf := rf) (kk := kk) (th := nI (tW 0 0)) ⟨h19_19, h20_19, h21_19, h22_19, hbb_19, hbl_19, hb3_19⟩ hn1 hn2 gm hgrw19 gx q5 (by first | assumption | omega) (kc := 0) (ks := 0)) hdp (st := []) (Nat.le_of_ble_eq_true rfl) rfl (kr_I fun v31 w31 hv31 hw31 => ?_) kx_I
                        obtain ⟨mv31, hR31, hFc31, hgmv31, hp31_0⟩ := hw31
                        obtain ⟨h19_31, h20_31, h21_31, h22_31, hbb_31, hbl_31, hb3_31⟩ := hR31
                        have hF31 := hF19.tr hFc31
                        subst hv31
                        have hgt := hp31_0
                        exact J_iret (pc := 131) dX8_match_131 rfl (⟨mv31, rw19, (-1), (dn + nI 1), rf, nI (tW 0 0), ⟨h19_31, h20_31, h21_31, h22_31, hbb_31, hbl_31, hb3_31⟩, hF31, hgmv31, hgrw19, (by first | assumption | exact PM_st hn2 (by assumption) (by assumption) (by assumption)), (by first | assumption | exact Or.inl rfl), (by first | exact Or.inl ⟨rfl, fun g => (by first | exact ne_isN (by assumption) g | exact ne_isN (by assumption) g.1 | exact ne_isN (by assumption) g.2 | exact ne_isN (by assumption) g.2.1 | exact ne_isN (by assumption) g.2.2 | exact ne_isN (by assumption) g.2.2.1 | exact ne_isN (by assumption) g.2.2.2), rfl, rfl, rfl, rfl⟩ | exact Or.inr (Or.inl ⟨rfl, ⟨_, _, _, _, rfl, rfl, rfl, by omega, by omega, by omega, by omega, RQ_end hy0 (by omega) hrow hv63_1 (by assumption) (by omega), hv38_1, ACT_of hn2 hgt (fun p hp => hrow p hp), congrArg nI (nu_congr (fun p hp => hrow p hp))⟩, rfl, rfl, rfl⟩) | exact Or.inr (Or.inr (⟨rfl, ⟨_, _, _, rfl, rfl, rfl, by omega, by omega, by omega, fun k hk => hv38_1 k (by omega), rfl⟩, rfl, rfl, rfl, rfl⟩)) | (exfalso; omega))⟩)
                    · refine J_aload_n (pc := 77) dX8_match_77 rfl rfl rfl ?_
                      refine J_get (pc := 78) (k := 2) dX8_match_78 kC9 (by decide) ff_X8_17 h19_19 rfl ?_
                      refine J_aload_n (pc := 81) dX8_match_81 rfl rfl rfl ?_
                      refine J_iload_n (pc := 82) dX8_match_82 rfl rfl ?_
                      refine J_iload (pc := 83) dX8_match_83 rfl ?_
                      refine J_callV0 (pc := 85) (M := mX8_match) (as := [.int (nI q1), .int (nI c6)]) dX8_match_85 fw_X8_at fl_X8_82 fm_X8_at fe_X8_at h19_19 (by decide) rfl rfl rfl (c_X8_at hs (d := d - 1) (Nat.le_trans (by decide) hdm) (w := w19) (n := n) (mv := mv) (rw := rw19) (nx := nx) (b := b) (bt := bt) (kn := kn) (en := en) (dn := dn) (rf := rf) (kk := kk) (th := nI (tW 0 0)) ⟨h19_19, h20_19, h21_19, h22_19, hbb_19, hbl_19, hb3_19⟩ hn1 hn2 gm hgrw19 gx q1 c6 (by first | assumption | omega) (by first | assumption | omega) (kc := 0) (ks := 0)) hdp (st := [.ref 21]) (Nat.le_of_ble_eq_true rfl) rfl (kr_P fun v32 hv32 => ?_) kx_I
                      subst hv32
                      have hq33 := gm (q1 * 7 + c6)
                      refine J_ialdF (pc := 88) dX8_match_88 h21_19 (by omega) (by decide) ?_
                      have hq34 := hgrw19 (mv (q1 * 7 + c6))
                      refine J_aload_n (pc := 89) dX8_match_89 rfl rfl rfl ?_
                      refine J_iload_n (pc := 90) dX8_match_90 rfl rfl ?_
                      refine J_aload_n (pc := 91) dX8_match_91 rfl rfl rfl ?_
                      refine J_get (pc := 92) (k := 2) dX8_match_92 kC9 (by decide) ff_X8_17 h19_19 rfl ?_
                      refine J_iload (pc := 95) dX8_match_95 rfl ?_
                      refine J_ialdF (pc := 97) dX8_match_97 h21_19 (by omega) (by decide) ?_
                      have hq35 := hgrw19 c6
                      refine J_callV0 (pc := 98) (M := mX8_match) (as := [.int (nI q3), .int (nI (rw19 c6))]) dX8_match_98 fw_X8_at fl_X8_82 fm_X8_at fe_X8_at h19_19 (by decide) rfl rfl rfl (c_X8_at hs (d := d - 1) (Nat.le_trans (by decide) hdm) (w := w19) (n := n) (mv := mv) (rw := rw19) (nx := nx) (b := b) (bt := bt) (kn := kn) (en := en) (dn := dn) (rf := rf) (kk := kk) (th := nI (tW 0 0)) ⟨h19_19, h20_19, h21_19, h22_19, hbb_19, hbl_19, hb3_19⟩ hn1 hn2 gm hgrw19 gx q3 (rw19 c6) (by first | assumption | omega) (by first | assumption | omega) (kc := 0) (ks := 0)) hdp (st := [.int (nI (rw19 (mv (q1 * 7 + c6))))]) (Nat.le_of_ble_eq_true rfl) rfl (kr_P fun v36 hv36 => ?_) kx_I
                      subst hv36
                      have hq37 := gm (q3 * 7 + (rw19 c6))
                      refine J_icmp_neN (pc := 101) (tgt := 108) dX8_match_101 (by decide) (by omega) (by omega) (fun ht38 => ?_) (fun hf39 => ?_)
                      · refine J_iconst (pc := 108) (v := nI 0) dX8_match_108 (by decide) ?_
                        refine J_istore (pc := 109) dX8_match_109 (by decide) rfl ?_
                        show J X mX8_match d kc ks 111 [some (.ref 19), some (.int (nI q1)), some (.int (nI q3)), some (.int (nI q5)), some (.int (nI c4)), some (.int (nI 0)), some (.int (nI c6))] [] w19 _
                        refine J_iincN (pc := 111) (b := 1) dX8_match_111 rfl (by decide) (by decide) rfl ?_
                        show J X mX8_match d kc ks 114 [some (.ref 19), some (.int (nI q1)), some (.int (nI q3)), some (.int (nI q5)), some (.int (nI c4)), some (.int (nI 0)), some (.int (nI (c6 + 1)))] [] w19 _
                        refine J_goto (pc := 114) (tgt := 63) dX8_match_114 (by decide) ?_
                        exact J_sub (L' := [some (.ref 19), some (.int (nI q1)), some (.int (nI q3)), some (.int (nI q5)), some (.int (nI c4)), some (.int (nI 0)), some (.int (nI (c6 + 1)))]) ⟨rfl, ⟨rfl, ⟨rfl, ⟨rfl, ⟨rfl, ⟨rfl, ⟨rfl, trivial⟩⟩⟩⟩⟩⟩⟩ (ihlp63_20 0 (c6 + 1) (by first | assumption | omega) (by first | exact RQ_1 hv63_1 (by assumption) (by assumption) | exact RQ_2 (by omega) (by assumption)) (by first | assumption | omega) (by omega))
                      · refine J_iconst (pc := 104) (v := nI 1) dX8_match_104 (by decide) ?_
                        refine J_goto (pc := 105) (tgt := 109) dX8_match_105 (by decide) ?_
                        refine J_istore (pc := 109) dX8_match_109 (by decide) rfl ?_
                        show J X mX8_match d kc ks 111 [some (.ref 19), some (.int (nI q1)), some (.int (nI q3)), some (.int (nI q5)), some (.int (nI c4)), some (.int (nI 1)), some (.int (nI c6))] [] w19 _
                        refine J_iincN (pc := 111) (b := 1) dX8_match_111 rfl (by decide) (by decide) rfl ?_
                        show J X mX8_match d kc ks 114 [some (.ref 19), some (.int (nI q1)), some (.int (nI q3)), some (.int (nI q5)), some (.int (nI c4)), some (.int (nI 1)), some (.int (nI (c6 + 1)))] [] w19 _
                        refine J_goto (pc := 114) (tgt := 63) dX8_match_114 (by decide) ?_
                        exact J_sub (L' := [some (.ref 19), some (.int (nI q1)), some (.int (nI q3)), some (.int (nI q5)), some (.int (nI c4)), some (.int (nI 1)), some (.int (nI (c6 + 1)))]) ⟨rfl, ⟨rfl, ⟨rfl, ⟨rfl, ⟨rfl, ⟨rfl, ⟨rfl, trivial⟩⟩⟩⟩⟩⟩⟩ (ihlp63_20 1 (c6 + 1) (by first | assumption | omega) (by first | exact RQ_1 hv63_1 (by assumption) (by assumption) | exact RQ_2 (by omega) (by assumption)) (by first | assumption | omega) (by omega))
              exact J_sub (L' := [some (.ref 19), some (.int (nI q1)), some (.int (nI q3)), some (.int (nI q5)), some (.int (nI c4)), some (.int (nI 1)), some (.int (nI 0))]) ⟨rfl, ⟨rfl, ⟨rfl, ⟨rfl, ⟨rfl, ⟨rfl, ⟨rfl, trivial⟩⟩⟩⟩⟩⟩⟩ (lp63_20 _ 1 0 (by first | assumption | omega) (by exact RQ_0) (by first | assumption | omega) (Nat.lt_succ_self _))
        exact J_sub (L' := [some (.ref 19), some (.int (nI q1)), some (.int (nI q3)), some (.int (nI q5)), some (.int (nI 0)), none, none]) ⟨rfl, ⟨rfl, ⟨rfl, ⟨rfl, ⟨rfl, trivial⟩⟩⟩⟩⟩ (lp38_8 _ w7 rw 0 ⟨h19_7, h20_7, h21_7, h22_7, hbb_7, hbl_7, hb3_7⟩ hF7 gr (by first | assumption | omega) (by exact fun j hj => absurd hj (Nat.not_lt_zero j)) (Nat.lt_succ_self _))
