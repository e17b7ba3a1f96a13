/-! what is asked of the reference's groups, exactly -/
theorem isN_2 {a : Int32} (h1 : ¬ a < 0) (h2 : a ≤ nI 1) : isN a 2 := by
  obtain ⟨k, hk, rfl⟩ := nI_nn (Int32.not_lt.mp h1)
  exact ⟨k, by have := (nI_leI hk (by omega)).mp h2; omega, rfl⟩
set_option maxRecDepth 100000 in
set_option maxHeartbeats 4000000 in
theorem c_X8_isInNow_atx {X : jX} (hs : X.1.stackTraces = false) {d : Nat} (hd : 4 ≤ d) {n : Nat} {mv rw nx : Nat → Nat} {b : Nat} {bt : List Int32} {kn en dn rf kk th : Int32} {w : List jC} (hR : RM n mv rw nx b bt kn en dn rf kk th w) (hn1 : 2 ≤ n) (hn2 : n ≤ 7) (gm : ∀ i, mv i < 7) (gr : ∀ i, rw i < 7) (gx : ∀ i, nx i < 7) (s : Nat) (a : Nat) (hy0 : s < 64) (hy1 : PM n mv) (hy2 : KX n mv kn bt) (hy3 : a < 6) {kc ks : Nat} (hkc : 13 ≤ kc) (hks : 2054 ≤ ks) : jMet X mX8_isInNow d kc ks [.ref 19, .int (nI s), .int (nI a)] w (pI (fun v => (v = nI 0 ∧ ¬ (Gg n (gS (mW n mv) s 6)) (mW n mv a)) ∨ (v = nI 1 ∧ (Gg n (gS (mW n mv) s 6)) (mW n mv a))) (fun w' => ∃ (rw' : Nat → Nat), ∃ (nx' : Nat → Nat), ∃ (b' : Nat), ∃ (bt' : List Int32), ∃ (kn' : Int32), ∃ (en' : Int32), RM n mv rw' nx' b' bt' kn' en' dn rf kk th w' ∧ FR b b' w w' ∧ (∀ i, rw' i < 7) ∧ (∀ i, nx' i < 7) ∧ kn' = nI s ∧ BX n mv s bt')) := by
  refine jMet_of hs (by decide +kernel) (Nat.le_of_ble_eq_true rfl) (L := [some (.ref 19), some (.int (nI s)), some (.int (nI a))]) rfl ?_
  have hdm : 3 ≤ d - 1 := by omega
  have hdp : d - 1 + 1 ≤ d := by omega
  have hfc := fc_7 hn2
  have hfp := fc_pos n
  obtain ⟨h19, h20, h21, h22, hbb, hbl, hb3⟩ := hR
  have hF : FR b b w w := FR.rf
  refine J_aload_n (pc := 0) dX8_isInNow_0 rfl rfl rfl ?_
  refine J_iload_n (pc := 1) dX8_isInNow_1 rfl rfl ?_
  refine J_callV (pc := 2) (M := mX8_isInNow) (as := [.int (nI s)]) dX8_isInNow_2 fw_X8_group fl_X8_99 fm_X8_group fe_X8_group h19 (by decide) rfl rfl rfl (c_X8_group_ate hs (d := d - 1) (Nat.le_trans (by decide) hdm) (w := w) (n := n) (mv := mv) (rw := rw) (nx := nx) (b := b) (bt := bt) (kn := kn) (en := en) (dn := dn) (rf := rf) (kk := kk) (th := th) ⟨h19, h20, h21, h22, hbb, hbl, hb3⟩ hn1 hn2 gm gr gx s (by first | assumption | omega) (by first | assumption | omega) (by first | assumption | omega) (kc := 13) (ks := 2054) (Nat.le_refl _) (Nat.le_refl _)) hdp (by omega) (by omega) (st := []) (Nat.le_of_ble_eq_true rfl) rfl (kr_V fun w1 hw1 => ?_) kx_V
  obtain ⟨rw1, nx1, b1, bt1, kn1, en1, hR1, hFc1, hgrw1, hgnx1, hp1_0, hp1_1⟩ := hw1
  obtain ⟨h19_1, h20_1, h21_1, h22_1, hbb_1, hbl_1, hb3_1⟩ := hR1
  have qd1 := hFc1.2.1
  have hF1 := hF.tr hFc1
  have hBX := hp1_1
  refine J_aload_n (pc := 5) dX8_isInNow_5 rfl rfl rfl ?_
  refine J_aload_n (pc := 6) dX8_isInNow_6 rfl rfl rfl ?_
  refine J_aload_n (pc := 7) dX8_isInNow_7 rfl rfl rfl ?_
  refine J_get (pc := 8) (k := 1) dX8_isInNow_8 kC9 (by decide) ff_X8_13 h19_1 rfl ?_
  refine J_iload_n (pc := 11) dX8_isInNow_11 rfl rfl ?_
  refine J_bipush (pc := 12) (v := nI 7) dX8_isInNow_12 (by decide) ?_
  refine J_imulN (pc := 14) dX8_isInNow_14 ?_
  refine J_callV0 (pc := 15) (M := mX8_isInNow) (as := [.ref 20, .int (nI (a * 7))]) dX8_isInNow_15 fw_X8_numberOf fl_X8_45 fm_X8_numberOf fe_X8_numberOf h19_1 (by decide) rfl rfl rfl (c_X8_numberOf_at20 hs (d := d - 1) (Nat.le_trans (by decide) hdm) (w := w1) (n := n) (mv := mv) (rw := rw1) (nx := nx1) (b := b1) (bt := bt1) (kn := kn1) (en := en1) (dn := dn) (rf := rf) (kk := kk) (th := th) ⟨h19_1, h20_1, h21_1, h22_1, hbb_1, hbl_1, hb3_1⟩ hn1 hn2 gm hgrw1 hgnx1 (a * 7) (by first | assumption | omega) (kc := 0) (ks := 0)) hdp (st := [.ref 19]) (Nat.le_of_ble_eq_true rfl) rfl (kr_P fun v2 hv2 => ?_) kx_I
  subst hv2
  have hq3 := nuF_b mv (a * 7) n
  refine J_callV0 (pc := 18) (M := mX8_isInNow) (as := [.int (nI (nuF mv (a * 7) n n))]) dX8_isInNow_18 fw_X8_isBit fl_X8_88 fm_X8_isBit fe_X8_isBit h19_1 (by decide) rfl rfl rfl (c_X8_isBit hs (d := d - 1) (Nat.le_trans (by decide) hdm) (w := w1) (n := n) (mv := mv) (rw := rw1) (nx := nx1) (b := b1) (bt := bt1) (kn := kn1) (en := en1) (dn := dn) (rf := rf) (kk := kk) (th := th) ⟨h19_1, h20_1, h21_1, h22_1, hbb_1, hbl_1, hb3_1⟩ hn1 hn2 gm hgrw1 hgnx1 (nuF mv (a * 7) n n) (by first | assumption | omega) (kc := 0) (ks := 0)) hdp (st := []) (Nat.le_of_ble_eq_true rfl) rfl (kr_P fun v4 hv4 => ?_) kx_I
  rcases hv4 with ⟨rfl, hk4_0⟩ | ⟨rfl, hk4_0⟩
  · exact J_zret (pc := 21) dX8_isInNow_21 rfl (nar_b (by first | decide | omega)) ⟨Or.inl ⟨rfl, (by exact fun h => absurd ((in_bit hn1 hn2 hy1 hBX hy3).mpr h) (bf (by assumption)))⟩, ⟨rw1, nx1, b1, bt1, kn1, en1, ⟨h19_1, h20_1, h21_1, h22_1, hbb_1, hbl_1, hb3_1⟩, hF1, hgrw1, hgnx1, (by first | rfl | assumption), (by first | assumption | exact hBX)⟩⟩
  · exact J_zret (pc := 21) dX8_isInNow_21 rfl (nar_b (by first | decide | omega)) ⟨Or.inr (⟨rfl, (by exact (in_bit hn1 hn2 hy1 hBX hy3).mp (by assumption))⟩), ⟨rw1, nx1, b1, bt1, kn1, en1, ⟨h19_1, h20_1, h21_1, h22_1, hbb_1, hbl_1, hb3_1⟩, hF1, hgrw1, hgnx1, (by first | rfl | assumption), (by first | assumption | exact hBX)⟩⟩
set_option maxRecDepth 100000 in
set_option maxHeartbeats 40000000 in
theorem c_X8_rank_ate {X : jX} (hs : X.1.stackTraces = false) {d : Nat} (hd : 5 ≤ d) {n : Nat} {mv rw nx : Nat → Nat} {b : Nat} {bt : List Int32} {kn en dn rf kk th : Int32} {w : List jC} (hR : RM n mv rw nx b bt kn en dn rf kk th w) (hn1 : 2 ≤ n) (hn2 : n ≤ 7) (gm : ∀ i, mv i < 7) (gr : ∀ i, rw i < 7) (gx : ∀ i, nx i < 7) (s : Int32) (a : Int32) (c : Int32) (hy0 : PM n mv) (hy1 : KX n mv kn bt) {kc ks : Nat} (hkc : 13 ≤ kc) (hks : 2054 ≤ ks) : jMet X mX8_rank d kc ks [.ref 19, .int s, .int a, .int c] w (pJ (fun v w' => ∃ (rw' : Nat → Nat), ∃ (nx' : Nat → Nat), ∃ (b' : Nat), ∃ (bt' : List Int32), ∃ (kn' : Int32), ∃ (en' : Int32), ∃ (th' : Int32), RM n mv rw' nx' b' bt' kn' en' dn rf kk th' w' ∧ FR b b' w w' ∧ (∀ i, rw' i < 7) ∧ (∀ i, nx' i < 7) ∧ KX n mv kn' bt' ∧ ((th' = nI 1 ∧ ¬ (isN a 6 ∧ isN c 6)) ∨ (th' = nI 2 ∧ (isN a 6 ∧ isN c 6) ∧ ¬ (isN s 64)) ∨ (th' = nI 0 ∧ ∃ a1 b1 c1 : Nat, s = nI a1 ∧ a = nI b1 ∧ c = nI c1 ∧ a1 < 64 ∧ b1 < 6 ∧ c1 < 6 ∧ ((v = (-1) ∧ ¬ (Gg n (gS (mW n mv) a1 6)) (mW n mv c1)) ∨ ((Gg n (gS (mW n mv) a1 6)) (mW n mv c1) ∧ v = nI (cd n (fun x => (Gg n (gS (mW n mv) a1 6)) x ∧ LSr n (fun j => mv (b1 * 7 + j)) (d8 x) (d8 (mW n mv c1)))))))))) := by
  refine jMet_of hs (by decide +kernel) (Nat.le_of_ble_eq_true rfl) (L := [some (.ref 19), some (.int s), some (.int a), some (.int c), none, none, none]) rfl ?_
  have hdm : 4 ≤ d - 1 := by omega
  have hdp : d - 1 + 1 ≤ d := by omega
  have hfc := fc_7 hn2
  have hfp := fc_pos n
  obtain ⟨h19, h20, h21, h22, hbb, hbl, hb3⟩ := hR
  have hF : FR b b w w := FR.rf
  refine J_aload_n (pc := 0) dX8_rank_0 rfl rfl rfl ?_
  refine J_iload_n (pc := 1) dX8_rank_1 rfl rfl ?_
  refine J_callS0 (pc := 2) (M := mX8_rank) (as := [.int a]) dX8_rank_2 fw_X8_isCell fl_X8_108 fs_X8_isCell rfl (c_X8_isCell hs (d := d - 1) (Nat.le_trans (by decide) hdm) (w := w) a (kc := 0) (ks := 0)) hdp (st := [.ref 19]) (Nat.le_of_ble_eq_true rfl) rfl (kr_P fun v1 hv1 => ?_) kx_I
  rcases hv1 with ⟨rfl, hk1_0⟩ | ⟨q1, rfl, hk1_0, rfl⟩
  · refine J_if_eqN (pc := 5) (tgt := 15) dX8_rank_5 (by decide) (by decide) (fun _ => ?_) (fun h => absurd h (by decide))
    refine J_iconst (pc := 15) (v := nI 1) dX8_rank_15 (by decide) ?_
    refine J_goto (pc := 16) (tgt := 20) dX8_rank_16 (by decide) ?_
    refine J_iload_n (pc := 20) dX8_rank_20 rfl rfl ?_
    refine J_callS0 (pc := 21) (M := mX8_rank) (as := [.int s]) dX8_rank_21 fw_X8_isSet fl_X8_134 fs_X8_isSet rfl (c_X8_isSet hs (d := d - 1) (Nat.le_trans (by decide) hdm) (w := w) s (kc := 0) (ks := 0)) hdp (st := [.int (nI 1), .ref 19]) (Nat.le_of_ble_eq_true rfl) rfl (kr_P fun v2 hv2 => ?_) kx_I
    rcases hv2 with ⟨rfl, hk2_0⟩ | ⟨q2, rfl, hk2_0, rfl⟩
    · refine J_if_neN (pc := 24) (tgt := 31) dX8_rank_24 (by decide) (by decide) (fun h => absurd h (by decide)) (fun _ => ?_)
      refine J_iconst (pc := 27) (v := nI 1) dX8_rank_27 (by decide) ?_
      refine J_goto (pc := 28) (tgt := 32) dX8_rank_28 (by decide) ?_
      refine J_callV0 (pc := 32) (M := mX8_rank) (as := [.int (nI 1), .int (nI 1)]) dX8_rank_32 fw_X8_isThrown fl_X8_35 fm_X8_isThrown fe_X8_isThrown h19 (by decide) rfl rfl rfl (c_X8_isThrown hs (d := d - 1) (Nat.le_trans (by decide) hdm) (w := w) (n := n) (mv := mv) (rw := rw) (nx := nx) (b := b) (bt := bt) (kn := kn) (en := en) (dn := dn) (rf := rf) (kk := kk) (th := th) ⟨h19, h20, h21, h22, hbb, hbl, hb3⟩ hn1 hn2 gm gr gx 1 1 (by first | assumption | omega) (by first | assumption | omega) (kc := 0) (ks := 0)) hdp (st := []) (Nat.le_of_ble_eq_true rfl) rfl (kr_I fun v3 w3 hv3 hw3 => ?_) kx_I
      obtain ⟨hR3, hFc3⟩ := hw3
      obtain ⟨h19_3, h20_3, h21_3, h22_3, hbb_3, hbl_3, hb3_3⟩ := hR3
      have hF3 := hF.tr hFc3
      subst hv3
      show J X mX8_rank d kc ks 35 [some (.ref 19), some (.int s), some (.int a), some (.int c), none, none, none] [.int (nI 1)] w3 _
      refine J_if_eqN (pc := 35) (tgt := 40) dX8_rank_35 (by decide) (by decide) (fun h => absurd h (by decide)) (fun _ => ?_)
      refine J_iconst (pc := 38) (v := nI 0) dX8_rank_38 (by decide) ?_
      exact J_iret (pc := 39) dX8_rank_39 rfl (⟨rw, nx, b, bt, kn, en, nI (tW 1 1), ⟨h19_3, h20_3, h21_3, h22_3, hbb_3, hbl_3, hb3_3⟩, hF3, gr, gx, (by first | assumption | exact KX_i (by assumption) (by assumption) (by first | rfl | assumption)), (by first | exact Or.inl ⟨rfl, fun g => (by first | exact ne_isN (by assumption) g | exact ne_isN (by assumption) g.1 | exact ne_isN (by assumption) g.2)⟩ | exact Or.inr (Or.inl ⟨rfl, ⟨isN_of (by first | assumption | omega), isN_of (by first | assumption | omega)⟩, fun g => (by first | exact ne_isN (by assumption) g | exact ne_isN (by assumption) g.1 | exact ne_isN (by assumption) g.2)⟩) | exact Or.inr (Or.inr ⟨rfl, ⟨_, _, _, rfl, rfl, rfl, (by omega), (by omega), (by omega), (by first | exact Or.inl ⟨rfl, by assumption⟩ | exact Or.inr ⟨by assumption, congrArg nI hend⟩)⟩⟩))⟩)
    · refine J_if_neN (pc := 24) (tgt := 31) dX8_rank_24 (by decide) (by decide) (fun _ => ?_) (fun h => absurd h (by decide))
      refine J_iconst (pc := 31) (v := nI 0) dX8_rank_31 (by decide) ?_
      refine J_callV0 (pc := 32) (M := mX8_rank) (as := [.int (nI 1), .int (nI 0)]) dX8_rank_32 fw_X8_isThrown fl_X8_35 fm_X8_isThrown fe_X8_isThrown h19 (by decide) rfl rfl rfl (c_X8_isThrown hs (d := d - 1) (Nat.le_trans (by decide) hdm) (w := w) (n := n) (mv := mv) (rw := rw) (nx := nx) (b := b) (bt := bt) (kn := kn) (en := en) (dn := dn) (rf := rf) (kk := kk) (th := th) ⟨h19, h20, h21, h22, hbb, hbl, hb3⟩ hn1 hn2 gm gr gx 1 0 (by first | assumption | omega) (by first | assumption | omega) (kc := 0) (ks := 0)) hdp (st := []) (Nat.le_of_ble_eq_true rfl) rfl (kr_I fun v4 w4 hv4 hw4 => ?_) kx_I
      obtain ⟨hR4, hFc4⟩ := hw4
      obtain ⟨h19_4, h20_4, h21_4, h22_4, hbb_4, hbl_4, hb3_4⟩ := hR4
      have hF4 := hF.tr hFc4
      subst hv4
      show J X mX8_rank d kc ks 35 [some (.ref 19), some (.int (nI q2)), some (.int a), some (.int c), none, none, none] [.int (nI 1)] w4 _
      refine J_if_eqN (pc := 35) (tgt := 40) dX8_rank_35 (by decide) (by decide) (fun h => absurd h (by decide)) (fun _ => ?_)
      refine J_iconst (pc := 38) (v := nI 0) dX8_rank_38 (by decide) ?_
      exact J_iret (pc := 39) dX8_rank_39 rfl (⟨rw, nx, b, bt, kn, en, nI (tW 1 0), ⟨h19_4, h20_4, h21_4, h22_4, hbb_4, hbl_4, hb3_4⟩, hF4, gr, gx, (by first | assumption | exact KX_i (by assumption) (by assumption) (by first | rfl | assumption)), (by first | exact Or.inl ⟨rfl, fun g => (by first | exact ne_isN (by assumption) g | exact ne_isN (by assumption) g.1 | exact ne_isN (by assumption) g.2)⟩ | exact Or.inr (Or.inl ⟨rfl, ⟨isN_of (by first | assumption | omega), isN_of (by first | assumption | omega)⟩, fun g => (by first | exact ne_isN (by assumption) g | exact ne_isN (by assumption) g.1 | exact ne_isN (by assumption) g.2)⟩) | exact Or.inr (Or.inr ⟨rfl, ⟨_, _, _, rfl, rfl, rfl, (by omega), (by omega), (by omega), (by first | exact Or.inl ⟨rfl, by assumption⟩ | exact Or.inr ⟨by assumption, congrArg nI hend⟩)⟩⟩))⟩)
  · refine J_if_eqN (pc := 5) (tgt := 15) dX8_rank_5 (by decide) (by decide) (fun h => absurd h (by decide)) (fun _ => ?_)
    refine J_iload_n (pc := 8) dX8_rank_8 rfl rfl ?_
    refine J_callS0 (pc := 9) (M := mX8_rank) (as := [.int c]) dX8_rank_9 fw_X8_isCell fl_X8_108 fs_X8_isCell rfl (c_X8_isCell hs (d := d - 1) (Nat.le_trans (by decide) hdm) (w := w) c (kc := 0) (ks := 0)) hdp (st := [.ref 19]) (Nat.le_of_ble_eq_true rfl) rfl (kr_P fun v5 hv5 => ?_) kx_I
    rcases hv5 with ⟨rfl, hk5_0⟩ | ⟨q5, rfl, hk5_0, rfl⟩
    · refine J_if_neN (pc := 12) (tgt := 19) dX8_rank_12 (by decide) (by decide) (fun h => absurd h (by decide)) (fun _ => ?_)
      refine J_iconst (pc := 15) (v := nI 1) dX8_rank_15 (by decide) ?_
      refine J_goto (pc := 16) (tgt := 20) dX8_rank_16 (by decide) ?_
      refine J_iload_n (pc := 20) dX8_rank_20 rfl rfl ?_
      refine J_callS0 (pc := 21) (M := mX8_rank) (as := [.int s]) dX8_rank_21 fw_X8_isSet fl_X8_134 fs_X8_isSet rfl (c_X8_isSet hs (d := d - 1) (Nat.le_trans (by decide) hdm) (w := w) s (kc := 0) (ks := 0)) hdp (st := [.int (nI 1), .ref 19]) (Nat.le_of_ble_eq_true rfl) rfl (kr_P fun v6 hv6 => ?_) kx_I
      rcases hv6 with ⟨rfl, hk6_0⟩ | ⟨q6, rfl, hk6_0, rfl⟩
      · refine J_if_neN (pc := 24) (tgt := 31) dX8_rank_24 (by decide) (by decide) (fun h => absurd h (by decide)) (fun _ => ?_)
        refine J_iconst (pc := 27) (v := nI 1) dX8_rank_27 (by decide) ?_
        refine J_goto (pc := 28) (tgt := 32) dX8_rank_28 (by decide) ?_
        refine J_callV0 (pc := 32) (M := mX8_rank) (as := [.int (nI 1), .int (nI 1)]) dX8_rank_32 fw_X8_isThrown fl_X8_35 fm_X8_isThrown fe_X8_isThrown h19 (by decide) rfl rfl rfl (c_X8_isThrown hs (d := d - 1) (Nat.le_trans (by decide) hdm) (w := w) (n := n) (mv := mv) (rw := rw) (nx := nx) (b := b) (bt := bt) (kn := kn) (en := en) (dn := dn) (rf := rf) (kk := kk) (th := th) ⟨h19, h20, h21, h22, hbb, hbl, hb3⟩ hn1 hn2 gm gr gx 1 1 (by first | assumption | omega) (by first | assumption | omega) (kc := 0) (ks := 0)) hdp (st := []) (Nat.le_of_ble_eq_true rfl) rfl (kr_I fun v7 w7 hv7 hw7 => ?_) kx_I
        obtain ⟨hR7, hFc7⟩ := hw7
        obtain ⟨h19_7, h20_7, h21_7, h22_7, hbb_7, hbl_7, hb3_7⟩ := hR7
        have hF7 := hF.tr hFc7
        subst hv7
        show J X mX8_rank d kc ks 35 [some (.ref 19), some (.int s), some (.int (nI q1)), some (.int c), none, none, none] [.int (nI 1)] w7 _
        refine J_if_eqN (pc := 35) (tgt := 40) dX8_rank_35 (by decide) (by decide) (fun h => absurd h (by decide)) (fun _ => ?_)
        refine J_iconst (pc := 38) (v := nI 0) dX8_rank_38 (by decide) ?_
        exact J_iret (pc := 39) dX8_rank_39 rfl (⟨rw, nx, b, bt, kn, en, nI (tW 1 1), ⟨h19_7, h20_7, h21_7, h22_7, hbb_7, hbl_7, hb3_7⟩, hF7, gr, gx, (by first | assumption | exact KX_i (by assumption) (by assumption) (by first | rfl | assumption)), (by first | exact Or.inl ⟨rfl, fun g => (by first | exact ne_isN (by assumption) g | exact ne_isN (by assumption) g.1 | exact ne_isN (by assumption) g.2)⟩ | exact Or.inr (Or.inl ⟨rfl, ⟨isN_of (by first | assumption | omega), isN_of (by first | assumption | omega)⟩, fun g => (by first | exact ne_isN (by assumption) g | exact ne_isN (by assumption) g.1 | exact ne_isN (by assumption) g.2)⟩) | exact Or.inr (Or.inr ⟨rfl, ⟨_, _, _, rfl, rfl, rfl, (by omega), (by omega), (by omega), (by first | exact Or.inl ⟨rfl, by assumption⟩ | exact Or.inr ⟨by assumption, congrArg nI hend⟩)⟩⟩))⟩)
      · refine J_if_neN (pc := 24) (tgt := 31) dX8_rank_24 (by decide) (by decide) (fun _ => ?_) (fun h => absurd h (by decide))
        refine J_iconst (pc := 31) (v := nI 0) dX8_rank_31 (by decide) ?_
        refine J_callV0 (pc := 32) (M := mX8_rank) (as := [.int (nI 1), .int (nI 0)]) dX8_rank_32 fw_X8_isThrown fl_X8_35 fm_X8_isThrown fe_X8_isThrown h19 (by decide) rfl rfl rfl (c_X8_isThrown hs (d := d - 1) (Nat.le_trans (by decide) hdm) (w := w) (n := n) (mv := mv) (rw := rw) (nx := nx) (b := b) (bt := bt) (kn := kn) (en := en) (dn := dn) (rf := rf) (kk := kk) (th := th) ⟨h19, h20, h21, h22, hbb, hbl, hb3⟩ hn1 hn2 gm gr gx 1 0 (by first | assumption | omega) (by first | assumption | omega) (kc := 0) (ks := 0)) hdp (st := []) (Nat.le_of_ble_eq_true rfl) rfl (kr_I fun v8 w8 hv8 hw8 => ?_) kx_I
        obtain ⟨hR8, hFc8⟩ := hw8
        obtain ⟨h19_8, h20_8, h21_8, h22_8, hbb_8, hbl_8, hb3_8⟩ := hR8
        have hF8 := hF.tr hFc8
        subst hv8
        show J X mX8_rank d kc ks 35 [some (.ref 19), some (.int (nI q6)), some (.int (nI q1)), some (.int c), none, none, none] [.int (nI 1)] w8 _
        refine J_if_eqN (pc := 35) (tgt := 40) dX8_rank_35 (by decide) (by decide) (fun h => absurd h (by decide)) (fun _ => ?_)
        refine J_iconst (pc := 38) (v := nI 0) dX8_rank_38 (by decide) ?_
        exact J_iret (pc := 39) dX8_rank_39 rfl (⟨rw, nx, b, bt, kn, en, nI (tW 1 0), ⟨h19_8, h20_8, h21_8, h22_8, hbb_8, hbl_8, hb3_8⟩, hF8, gr, gx, (by first | assumption | exact KX_i (by assumption) (by assumption) (by first | rfl | assumption)), (by first | exact Or.inl ⟨rfl, fun g => (by first | exact ne_isN (by assumption) g | exact ne_isN (by assumption) g.1 | exact ne_isN (by assumption) g.2)⟩ | exact Or.inr (Or.inl ⟨rfl, ⟨isN_of (by first | assumption | omega), isN_of (by first | assumption | omega)⟩, fun g => (by first | exact ne_isN (by assumption) g | exact ne_isN (by assumption) g.1 | exact ne_isN (by assumption) g.2)⟩) | exact Or.inr (Or.inr ⟨rfl, ⟨_, _, _, rfl, rfl, rfl, (by omega), (by omega), (by omega), (by first | exact Or.inl ⟨rfl, by assumption⟩ | exact Or.inr ⟨by assumption, congrArg nI hend⟩)⟩⟩))⟩)
    · refine J_if_neN (pc := 12) (tgt := 19) dX8_rank_12 (by decide) (by decide) (fun _ => ?_) (fun h => absurd h (by decide))
      refine J_iconst (pc := 19) (v := nI 0) dX8_rank_19 (by decide) ?_
      refine J_iload_n (pc := 20) dX8_rank_20 rfl rfl ?_
      refine J_callS0 (pc := 21) (M := mX8_rank) (as := [.int s]) dX8_rank_21 fw_X8_isSet fl_X8_134 fs_X8_isSet rfl (c_X8_isSet hs (d := d - 1) (Nat.le_trans (by decide) hdm) (w := w) s (kc := 0) (ks := 0)) hdp (st := [.int (nI 0), .ref 19]) (Nat.le_of_ble_eq_true rfl) rfl (kr_P fun v9 hv9 => ?_) kx_I
      rcases hv9 with ⟨rfl, hk9_0⟩ | ⟨q9, rfl, hk9_0, rfl⟩
      · refine J_if_neN (pc := 24) (tgt := 31) dX8_rank_24 (by decide) (by decide) (fun h => absurd h (by decide)) (fun _ => ?_)
        refine J_iconst (pc := 27) (v := nI 1) dX8_rank_27 (by decide) ?_
        refine J_goto (pc := 28) (tgt := 32) dX8_rank_28 (by decide) ?_
        refine J_callV0 (pc := 32) (M := mX8_rank) (as := [.int (nI 0), .int (nI 1)]) dX8_rank_32 fw_X8_isThrown fl_X8_35 fm_X8_isThrown fe_X8_isThrown h19 (by decide) rfl rfl rfl (c_X8_isThrown hs (d := d - 1) (Nat.le_trans (by decide) hdm) (w := w) (n := n) (mv := mv) (rw := rw) (nx := nx) (b := b) (bt := bt) (kn := kn) (en := en) (dn := dn) (rf := rf) (kk := kk) (th := th) ⟨h19, h20, h21, h22, hbb, hbl, hb3⟩ hn1 hn2 gm gr gx 0 1 (by first | assumption | omega) (by first | assumption | omega) (kc := 0) (ks := 0)) hdp (st := []) (Nat.le_of_ble_eq_true rfl) rfl (kr_I fun v10 w10 hv10 hw10 => ?_) kx_I
        obtain ⟨hR10, hFc10⟩ := hw10
        obtain ⟨h19_10, h20_10, h21_10, h22_10, hbb_10, hbl_10, hb3_10⟩ := hR10
        have hF10 := hF.tr hFc10
        subst hv10
        show J X mX8_rank d kc ks 35 [some (.ref 19), some (.int s), some (.int (nI q1)), some (.int (nI q5)), none, none, none] [.int (nI 1)] w10 _
        refine J_if_eqN (pc := 35) (tgt := 40) dX8_rank_35 (by decide) (by decide) (fun h => absurd h (by decide)) (fun _ => ?_)
        refine J_iconst (pc := 38) (v := nI 0) dX8_rank_38 (by decide) ?_
        exact J_iret (pc := 39) dX8_rank_39 rfl (⟨rw, nx, b, bt, kn, en, nI (tW 0 1), ⟨h19_10, h20_10, h21_10, h22_10, hbb_10, hbl_10, hb3_10⟩, hF10, gr, gx, (by first | assumption | exact KX_i (by assumption) (by assumption) (by first | rfl | assumption)), (by first | exact Or.inl ⟨rfl, fun g => (by first | exact ne_isN (by assumption) g | exact ne_isN (by assumption) g.1 | exact ne_isN (by assumption) g.2)⟩ | exact Or.inr (Or.inl ⟨rfl, ⟨isN_of (by first | assumption | omega), isN_of (by first | assumption | omega)⟩, fun g => (by first | exact ne_isN (by assumption) g | exact ne_isN (by assumption) g.1 | exact ne_isN (by assumption) g.2)⟩) | exact Or.inr (Or.inr ⟨rfl, ⟨_, _, _, rfl, rfl, rfl, (by omega), (by omega), (by omega), (by first | exact Or.inl ⟨rfl, by assumption⟩ | exact Or.inr ⟨by assumption, congrArg nI hend⟩)⟩⟩))⟩)
      · refine J_if_neN (pc := 24) (tgt := 31) dX8_rank_24 (by decide) (by decide) (fun _ => ?_) (fun h => absurd h (by decide))
        refine J_iconst (pc := 31) (v := nI 0) dX8_rank_31 (by decide) ?_
        refine J_callV0 (pc := 32) (M := mX8_rank) (as := [.int (nI 0), .int (nI 0)]) dX8_rank_32 fw_X8_isThrown fl_X8_35 fm_X8_isThrown fe_X8_isThrown h19 (by decide) rfl rfl rfl (c_X8_isThrown hs (d := d - 1) (Nat.le_trans (by decide) hdm) (w := w) (n := n) (mv := mv) (rw := rw) (nx := nx) (b := b) (bt := bt) (kn := kn) (en := en) (dn := dn) (rf := rf) (kk := kk) (th := th) ⟨h19, h20, h21, h22, hbb, hbl, hb3⟩ hn1 hn2 gm gr gx 0 0 (by first | assumption | omega) (by first | assumption | omega) (kc := 0) (ks := 0)) hdp (st := []) (Nat.le_of_ble_eq_true rfl) rfl (kr_I fun v11 w11 hv11 hw11 => ?_) kx_I
        obtain ⟨hR11, hFc11⟩ := hw11
        obtain ⟨h19_11, h20_11, h21_11, h22_11, hbb_11, hbl_11, hb3_11⟩ := hR11
        have hF11 := hF.tr hFc11
        subst hv11
        show J X mX8_rank d kc ks 35 [some (.ref 19), some (.int (nI q9)), some (.int (nI q1)), some (.int (nI q5)), none, none, none] [.int (nI 0)] w11 _
        refine J_if_eqN (pc := 35) (tgt := 40) dX8_rank_35 (by decide) (by decide) (fun _ => ?_) (fun h => absurd h (by decide))
        refine J_aload_n (pc := 40) dX8_rank_40 rfl rfl rfl ?_
        refine J_iload_n (pc := 41) dX8_rank_41 rfl rfl ?_
        refine J_iload_n (pc := 42) dX8_rank_42 rfl rfl ?_
        refine J_callV (pc := 43) (M := mX8_rank) (as := [.int (nI q9), .int (nI q5)]) dX8_rank_43 fw_X8_isInNow fl_X8_185 fm_X8_isInNow fe_X8_isInNow h19_11 (by decide) rfl rfl rfl (c_X8_isInNow_atx hs (d := d - 1) (Nat.le_trans (by decide) hdm) (w := w11) (n := n) (mv := mv) (rw := rw) (nx := nx) (b := b) (bt := bt) (kn := kn) (en := en) (dn := dn) (rf := rf) (kk := kk) (th := nI (tW 0 0)) ⟨h19_11, h20_11, h21_11, h22_11, hbb_11, hbl_11, hb3_11⟩ hn1 hn2 gm gr gx q9 q5 (by first | assumption | omega) (by first | assumption | omega) (by first | assumption | omega) (by first | assumption | omega) (kc := 13) (ks := 2054) (Nat.le_refl _) (Nat.le_refl _)) hdp (by omega) (by omega) (st := []) (Nat.le_of_ble_eq_true rfl) rfl (kr_I fun v12 w12 hv12 hw12 => ?_) kx_I
        obtain ⟨rw12, nx12, b12, bt12, kn12, en12, hR12, hFc12, hgrw12, hgnx12, hp12_0, hp12_1⟩ := hw12
        obtain ⟨h19_12, h20_12, h21_12, h22_12, hbb_12, hbl_12, hb3_12⟩ := hR12
        have qd12 := hFc12.2.1
        have hF12 := hF11.tr hFc12
        have hBX := hp12_1
        rcases hv12 with ⟨rfl, hk12_0⟩ | ⟨rfl, hk12_0⟩
        · refine J_if_neN (pc := 46) (tgt := 51) dX8_rank_46 (by decide) (by decide) (fun h => absurd h (by decide)) (fun _ => ?_)
          refine J_iconst (pc := 49) (v := (-1)) dX8_rank_49 (by decide) ?_
          exact J_iret (pc := 50) dX8_rank_50 rfl (⟨rw12, nx12, b12, bt12, kn12, en12, nI (tW 0 0), ⟨h19_12, h20_12, h21_12, h22_12, hbb_12, hbl_12, hb3_12⟩, hF12, hgrw12, hgnx12, (by first | assumption | exact KX_i (by assumption) (by assumption) (by first | rfl | assumption)), (by first | exact Or.inl ⟨rfl, fun g => (by first | exact ne_isN (by assumption) g | exact ne_isN (by assumption) g.1 | exact ne_isN (by assumption) g.2)⟩ | exact Or.inr (Or.inl ⟨rfl, ⟨isN_of (by first | assumption | omega), isN_of (by first | assumption | omega)⟩, fun g => (by first | exact ne_isN (by assumption) g | exact ne_isN (by assumption) g.1 | exact ne_isN (by assumption) g.2)⟩) | exact Or.inr (Or.inr ⟨rfl, ⟨_, _, _, rfl, rfl, rfl, (by omega), (by omega), (by omega), (by first | exact Or.inl ⟨rfl, by assumption⟩ | exact Or.inr ⟨by assumption, congrArg nI hend⟩)⟩⟩))⟩)
        · refine J_if_neN (pc := 46) (tgt := 51) dX8_rank_46 (by decide) (by decide) (fun _ => ?_) (fun h => absurd h (by decide))
          refine J_iconst (pc := 51) (v := nI 0) dX8_rank_51 (by decide) ?_
          refine J_istore (pc := 52) dX8_rank_52 (by decide) rfl ?_
          show J X mX8_rank d (kc - 13) (ks - 2054) 54 [some (.ref 19), some (.int (nI q9)), some (.int (nI q1)), some (.int (nI q5)), some (.int (nI 0)), none, none] [] w12 _
          refine J_aload_n (pc := 54) dX8_rank_54 rfl rfl rfl ?_
          refine J_iconst (pc := 55) (v := nI 0) dX8_rank_55 (by decide) ?_
          refine J_callV0 (pc := 56) (M := mX8_rank) (as := [.int (nI 0)]) dX8_rank_56 fw_X8_from fl_X8_137 fm_X8_from fe_X8_from h19_12 (by decide) rfl rfl rfl (c_X8_from hs (d := d - 1) (Nat.le_trans (by decide) hdm) (w := w12) (n := n) (mv := mv) (rw := rw12) (nx := nx12) (b := b12) (bt := bt12) (kn := kn12) (en := en12) (dn := dn) (rf := rf) (kk := kk) (th := nI (tW 0 0)) ⟨h19_12, h20_12, h21_12, h22_12, hbb_12, hbl_12, hb3_12⟩ hn1 hn2 gm hgrw12 hgnx12 0 (by first | assumption | omega) (kc := 0) (ks := 0)) hdp (st := []) (Nat.le_of_ble_eq_true rfl) rfl (kr_P fun v13 hv13 => ?_) kx_I
          rcases hv13 with ⟨rfl, hk13_0⟩ | ⟨q13, rfl, hk13_0, hk13_1, hk13_2, hk13_3⟩
          · refine J_istore (pc := 59) dX8_rank_59 (by decide) rfl ?_
            show J X mX8_rank d (kc - 13) (ks - 2054) 61 [some (.ref 19), some (.int (nI q9)), some (.int (nI q1)), some (.int (nI q5)), some (.int (nI 0)), some (.int (-1)), none] [] w12 _
            have lp61_14 : ∀ (fuel : Nat) (w15 : List jC) (rw_61 : Nat → Nat) (z4 : Nat) (c5 : Nat), (RM n mv rw_61 nx12 b12 bt12 kn12 en12 dn rf kk (nI (tW 0 0)) w15) → (FR b b12 w w15) → (∀ i, rw_61 i < 7) → (c5 ≤ fc n) → (0 < c5 → bitL bt12 (c5 - 1) = true) → (CTt bt12 (fun k => LSr n (fun j => mv (q1 * 7 + j)) (rwF n k) (fun i => mv (q5 * 7 + i))) z4 (KK (fc n) c5)) → (mu (fc n) c5 < fuel) → J X mX8_rank d (kc - 13) (ks - 2054) 61 [some (.ref 19), some (.int (nI q9)), some (.int (nI q1)), some (.int (nI q5)), some (.int (nI z4)), some (.int (nI c5 + Int32.ofInt (-1))), none] [] w15 (pJ (fun v w' => ∃ (rw' : Nat → Nat), ∃ (nx' : Nat → Nat), ∃ (b' : Nat), ∃ (bt' : List Int32), ∃ (kn' : Int32), ∃ (en' : Int32), ∃ (th' : Int32), RM n mv rw' nx' b' bt' kn' en' dn rf kk th' w' ∧ FR b b' w w' ∧ (∀ i, rw' i < 7) ∧ (∀ i, nx' i < 7) ∧ KX n mv kn' bt' ∧ ((th' = nI 1 ∧ ¬ (isN (nI q1) 6 ∧ isN (nI q5) 6)) ∨ (th' = nI 2 ∧ (isN (nI q1) 6 ∧ isN (nI q5) 6) ∧ ¬ (isN (nI q9) 64)) ∨ (th' = nI 0 ∧ ∃ a1 b1 c1 : Nat, (nI q9) = nI a1 ∧ (nI q1) = nI b1 ∧ (nI q5) = nI c1 ∧ a1 < 64 ∧ b1 < 6 ∧ c1 < 6 ∧ ((v = (-1) ∧ ¬ (Gg n (gS (mW n mv) a1 6)) (mW n mv c1)) ∨ ((Gg n (gS (mW n mv) a1 6)) (mW n mv c1) ∧ v = nI (cd n (fun x => (Gg n (gS (mW n mv) a1 6)) x ∧ LSr n (fun j => mv (b1 * 7 + j)) (d8 x) (d8 (mW n mv c1)))))))))) := by
              intro fuellp61_14
              induction fuellp61_14 with
              | zero => intros; omega
              | succ fuellp61_14 ihlp61_14 =>
                intro w15 rw_61 z4 c5 hR16 hF17 gr18 hv61_0 hv61_1 hv61_2 hf19
                obtain ⟨h19_20, h20_20, h21_20, h22_20, hb_20, hbl_20, hb3_20⟩ := hR16
                refine J_iload (pc := 61) dX8_rank_61 rfl ?_
                refine J_if_ltM (pc := 63) (tgt := 173) dX8_rank_63 (by decide) (by omega) (fun ht21 => ?_) (fun hf22 => ?_)
                · have hend := CTt_end (n := n) (Q := fun x => LSr n (fun j => mv (q1 * 7 + j)) (d8 x) (d8 (mW n mv q5))) hBX (fun k hk => LS_iff (rd := (fun j => mv (q1 * 7 + j))) (by omega) hn2 (fun j hj => (hy0 q1 (by omega)).1 j hj) (fun p hp => (mW_d hn2 hy0 (c := q5) (by omega) hp).symm)) (by have h := hv61_2; rw [show c5 = 0 by omega, KK_0] at h; exact h)
                  refine J_iload (pc := 173) dX8_rank_173 rfl ?_
                  exact J_iret (pc := 175) dX8_rank_175 rfl (⟨rw_61, nx12, b12, bt12, kn12, en12, nI (tW 0 0), ⟨h19_20, h20_20, h21_20, h22_20, hb_20, hbl_20, hb3_20⟩, hF17, gr18, hgnx12, (by first | assumption | exact KX_i (by assumption) (by assumption) (by first | rfl | assumption)), (by first | exact Or.inl ⟨rfl, fun g => (by first | exact ne_isN (by assumption) g | exact ne_isN (by assumption) g.1 | exact ne_isN (by assumption) g.2)⟩ | exact Or.inr (Or.inl ⟨rfl, ⟨isN_of (by first | assumption | omega), isN_of (by first | assumption | omega)⟩, fun g => (by first | exact ne_isN (by assumption) g | exact ne_isN (by assumption) g.1 | exact ne_isN (by assumption) g.2)⟩) | exact Or.inr (Or.inr ⟨rfl, ⟨_, _, _, rfl, rfl, rfl, (by omega), (by omega), (by omega), (by first | exact Or.inl ⟨rfl, by assumption⟩ | exact Or.inr ⟨by assumption, congrArg nI hend⟩)⟩⟩))⟩)
                · rw [nI_m1 hf22]
                  have hb61 := hv61_1 (by omega)
                  have hprev : CTt bt12 (fun k => LSr n (fun j => mv (q1 * 7 + j)) (rwF n k) (fun i => mv (q5 * 7 + i))) z4 (c5 - 1) := by
                    have h := hv61_2
                    rw [KK_p (by omega)] at h
                    exact h
                  refine J_aload_n (pc := 66) dX8_rank_66 rfl rfl rfl ?_
                  refine J_iload (pc := 67) dX8_rank_67 rfl ?_
                  refine J_aload_n (pc := 69) dX8_rank_69 rfl rfl rfl ?_
                  refine J_get (pc := 70) (k := 2) dX8_rank_70 kC9 (by decide) ff_X8_17 h19_20 rfl ?_
                  refine J_callV0 (pc := 73) (M := mX8_rank) (as := [.int (nI (c5 - 1)), .ref 21]) dX8_rank_73 fw_X8_rowOf fl_X8_78 fm_X8_rowOf fe_X8_rowOf h19_20 (by decide) rfl rfl rfl (c_X8_rowOf hs (d := d - 1) (Nat.le_trans (by decide) hdm) (w := w15) (n := n) (mv := mv) (rw := rw_61) (nx := nx12) (b := b12) (bt := bt12) (kn := kn12) (en := en12) (dn := dn) (rf := rf) (kk := kk) (th := nI (tW 0 0)) ⟨h19_20, h20_20, h21_20, h22_20, hb_20, hbl_20, hb3_20⟩ hn1 hn2 gm gr18 hgnx12 (c5 - 1) (by first | assumption | omega) (kc := 0) (ks := 0)) hdp (st := []) (Nat.le_of_ble_eq_true rfl) rfl (kr_V fun w23 hw23 => ?_) kx_V
                  obtain ⟨rw23, hR23, hFc23, hgrw23, hp23_0⟩ := hw23
                  obtain ⟨h19_23, h20_23, h21_23, h22_23, hbb_23, hbl_23, hb3_23⟩ := hR23
                  have hF23 := hF17.tr hFc23
                  have hrow := hp23_0
                  refine J_iconst (pc := 76) (v := nI 0) dX8_rank_76 (by decide) ?_
                  refine J_istore (pc := 77) dX8_rank_77 (by decide) rfl ?_
                  show J X mX8_rank d (kc - 13) (ks - 2054) 79 [some (.ref 19), some (.int (nI q9)), some (.int (nI q1)), some (.int (nI q5)), some (.int (nI z4)), some (.int (nI (c5 - 1))), some (.int (nI 0))] [] w23 _
                  have lp79_24 : ∀ (fuel : Nat) (c6 : Nat), (c6 ≤ n) → (∀ j, j < c6 → rw23 ((fun j => mv (q1 * 7 + j)) j) = (fun i => mv (q5 * 7 + i)) ((fun j => mv (q1 * 7 + j)) j)) → (n - c6 < fuel) → J X mX8_rank d (kc - 13) (ks - 2054) 79 [some (.ref 19), some (.int (nI q9)), some (.int (nI q1)), some (.int (nI q5)), some (.int (nI z4)), some (.int (nI (c5 - 1))), some (.int (nI c6))] [] w23 (pJ (fun v w' => ∃ (rw' : Nat → Nat), ∃ (nx' : Nat → Nat), ∃ (b' : Nat), ∃ (bt' : List Int32), ∃ (kn' : Int32), ∃ (en' : Int32), ∃ (th' : Int32), RM n mv rw' nx' b' bt' kn' en' dn rf kk th' w' ∧ FR b b' w w' ∧ (∀ i, rw' i < 7) ∧ (∀ i, nx' i < 7) ∧ KX n mv kn' bt' ∧ ((th' = nI 1 ∧ ¬ (isN (nI q1) 6 ∧ isN (nI q5) 6)) ∨ (th' = nI 2 ∧ (isN (nI q1) 6 ∧ isN (nI q5) 6) ∧ ¬ (isN (nI q9) 64)) ∨ (th' = nI 0 ∧ ∃ a1 b1 c1 : Nat, (nI q9) = nI a1 ∧ (nI q1) = nI b1 ∧ (nI q5) = nI c1 ∧ a1 < 64 ∧ b1 < 6 ∧ c1 < 6 ∧ ((v = (-1) ∧ ¬ (Gg n (gS (mW n mv) a1 6)) (mW n mv c1)) ∨ ((Gg n (gS (mW n mv) a1 6)) (mW n mv c1) ∧ v = nI (cd n (fun x => (Gg n (gS (mW n mv) a1 6)) x ∧ LSr n (fun j => mv (b1 * 7 + j)) (d8 x) (d8 (mW n mv c1)))))))))) := by
                    intro fuellp79_24
                    induction fuellp79_24 with
                    | zero => intros; omega
                    | succ fuellp79_24 ihlp79_24 =>
                      intro c6 hv79_0 hv79_1 hf25
                      refine J_iload (pc := 79) dX8_rank_79 rfl ?_
                      refine J_aload_n (pc := 81) dX8_rank_81 rfl rfl rfl ?_
                      refine J_get (pc := 82) (k := 0) dX8_rank_82 kC9 (by decide) ff_X8_7 h19_23 rfl ?_
                      refine J_icmp_geN (pc := 85) (tgt := 121) dX8_rank_85 (by decide) (by omega) (by omega) (fun ht26 => ?_) (fun hf27 => ?_)
                      · have hgg : ∀ j, j < n → rw23 ((fun j => mv (q1 * 7 + j)) j) = rwF n (c5 - 1) ((fun j => mv (q1 * 7 + j)) j) := fun j hj => hrow _ ((hy0 q1 (by omega)).1 j hj)
                        refine J_iload (pc := 121) dX8_rank_121 rfl ?_
                        refine J_aload_n (pc := 123) dX8_rank_123 rfl rfl rfl ?_
                        refine J_get (pc := 124) (k := 0) dX8_rank_124 kC9 (by decide) ff_X8_7 h19_23 rfl ?_
                        refine J_icmp_geN (pc := 127) (tgt := 160) dX8_rank_127 (by decide) (by omega) (by omega) (fun ht28 => ?_) (fun hf29 => ?_)
                        · have hst : CTt bt12 (fun k => LSr n (fun j => mv (q1 * 7 + j)) (rwF n k) (fun i => mv (q5 * 7 + i))) z4 (c5 - 1 + 1) := by first | exact CTt_y hprev hb61 (LS_y (rd := (fun j => mv (q1 * 7 + j))) (by omega) hv79_1 (by assumption) hgg) | exact CTt_n hprev (LS_n1 (rd := (fun j => mv (q1 * 7 + j))) (by omega) hv79_1 hgg) | exact CTt_n hprev (LS_n2 (rd := (fun j => mv (q1 * 7 + j))) (by omega) hv79_1 (by assumption) (by omega) hgg)
                          refine J_aload_n (pc := 160) dX8_rank_160 rfl rfl rfl ?_
                          refine J_iload (pc := 161) dX8_rank_161 rfl ?_
                          refine J_iconst (pc := 163) (v := nI 1) dX8_rank_163 (by decide) ?_
                          refine J_iaddN (pc := 164) dX8_rank_164 ?_
                          refine J_callV0 (pc := 165) (M := mX8_rank) (as := [.int (nI ((c5 - 1) + 1))]) dX8_rank_165 fw_X8_from fl_X8_137 fm_X8_from fe_X8_from h19_23 (by decide) rfl rfl rfl (c_X8_from hs (d := d - 1) (Nat.le_trans (by decide) hdm) (w := w23) (n := n) (mv := mv) (rw := rw23) (nx := nx12) (b := b12) (bt := bt12) (kn := kn12) (en := en12) (dn := dn) (rf := rf) (kk := kk) (th := nI (tW 0 0)) ⟨h19_23, h20_23, h21_23, h22_23, hbb_23, hbl_23, hb3_23⟩ hn1 hn2 gm hgrw23 hgnx12 ((c5 - 1) + 1) (by first | assumption | omega) (kc := 0) (ks := 0)) hdp (st := []) (Nat.le_of_ble_eq_true rfl) rfl (kr_P fun v30 hv30 => ?_) kx_I
                          rcases hv30 with ⟨rfl, hk30_0⟩ | ⟨q30, rfl, hk30_0, hk30_1, hk30_2, hk30_3⟩
                          · refine J_istore (pc := 168) dX8_rank_168 (by decide) rfl ?_
                            show J X mX8_rank d (kc - 13) (ks - 2054) 170 [some (.ref 19), some (.int (nI q9)), some (.int (nI q1)), some (.int (nI q5)), some (.int (nI z4)), some (.int (-1)), some (.int (nI c6))] [] w23 _
                            refine J_goto (pc := 170) (tgt := 61) dX8_rank_170 (by decide) ?_
                            exact J_sub (L' := [some (.ref 19), some (.int (nI q9)), some (.int (nI q1)), some (.int (nI q5)), some (.int (nI z4)), some (.int (nI 0 + Int32.ofInt (-1))), none]) ⟨rfl, ⟨rfl, ⟨rfl, ⟨rfl, ⟨rfl, ⟨(congrArg (fun z => some (Value.int z)) (by decide : (-1 : Int32) = nI 0 + Int32.ofInt (-1))), trivial⟩⟩⟩⟩⟩⟩ (ihlp61_14 w23 rw23 z4 0 ⟨h19_23, h20_23, h21_23, h22_23, hbb_23, hbl_23, hb3_23⟩ hF23 hgrw23 (by first | assumption | omega) (by intro h; first | (rw [Nat.add_sub_cancel]; assumption) | omega) (by first | exact KI_0 CTt_f hst (by omega) (by assumption) | exact KI_1 CTt_f hst (by omega) (by assumption)) (by exact mu_dec (by assumption) (by omega) (by omega) (by omega)))
                          · refine J_istore (pc := 168) dX8_rank_168 (by decide) rfl ?_
                            show J X mX8_rank d (kc - 13) (ks - 2054) 170 [some (.ref 19), some (.int (nI q9)), some (.int (nI q1)), some (.int (nI q5)), some (.int (nI z4)), some (.int (nI q30)), some (.int (nI c6))] [] w23 _
                            refine J_goto (pc := 170) (tgt := 61) dX8_rank_170 (by decide) ?_
                            exact J_sub (L' := [some (.ref 19), some (.int (nI q9)), some (.int (nI q1)), some (.int (nI q5)), some (.int (nI z4)), some (.int (nI (q30 + 1) + Int32.ofInt (-1))), none]) ⟨rfl, ⟨rfl, ⟨rfl, ⟨rfl, ⟨rfl, ⟨(congrArg (fun z => some (Value.int z)) (nI_n1 q30)), trivial⟩⟩⟩⟩⟩⟩ (ihlp61_14 w23 rw23 z4 (q30 + 1) ⟨h19_23, h20_23, h21_23, h22_23, hbb_23, hbl_23, hb3_23⟩ hF23 hgrw23 (by first | assumption | omega) (by intro h; first | (rw [Nat.add_sub_cancel]; assumption) | omega) (by first | exact KI_0 CTt_f hst (by omega) (by assumption) | exact KI_1 CTt_f hst (by omega) (by assumption)) (by exact mu_dec (by assumption) (by omega) (by omega) (by omega)))
                        · refine J_aload_n (pc := 130) dX8_rank_130 rfl rfl rfl ?_
                          refine J_get (pc := 131) (k := 2) dX8_rank_131 kC9 (by decide) ff_X8_17 h19_23 rfl ?_
                          refine J_aload_n (pc := 134) dX8_rank_134 rfl rfl rfl ?_
                          refine J_iload_n (pc := 135) dX8_rank_135 rfl rfl ?_
                          refine J_iload (pc := 136) dX8_rank_136 rfl ?_
                          refine J_callV0 (pc := 138) (M := mX8_rank) (as := [.int (nI q1), .int (nI c6)]) dX8_rank_138 fw_X8_at fl_X8_82 fm_X8_at fe_X8_at h19_23 (by decide) rfl rfl rfl (c_X8_at hs (d := d - 1) (Nat.le_trans (by decide) hdm) (w := w23) (n := n) (mv := mv) (rw := rw23) (nx := nx12) (b := b12) (bt := bt12) (kn := kn12) (en := en12) (dn := dn) (rf := rf) (kk := kk) (th := nI (tW 0 0)) ⟨h19_23, h20_23, h21_23, h22_23, hbb_23, hbl_23, hb3_23⟩ hn1 hn2 gm hgrw23 hgnx12 q1 c6 (by first | assumption | omega) (by first | assumption | omega) (kc := 0) (ks := 0)) hdp (st := [.ref 21]) (Nat.le_of_ble_eq_true rfl) rfl (kr_P fun v31 hv31 => ?_) kx_I
                          subst hv31
                          have hq32 := gm (q1 * 7 + c6)
                          refine J_ialdF (pc := 141) dX8_rank_141 h21_23 (by omega) (by decide) ?_
                          have hq33 := hgrw23 (mv (q1 * 7 + c6))
                          refine J_aload_n (pc := 142) dX8_rank_142 rfl rfl rfl ?_
                          refine J_iload_n (pc := 143) dX8_rank_143 rfl rfl ?_
                          refine J_aload_n (pc := 144) dX8_rank_144 rfl rfl rfl ?_
                          refine J_iload_n (pc := 145) dX8_rank_145 rfl rfl ?_
                          refine J_iload (pc := 146) dX8_rank_146 rfl ?_
                          refine J_callV0 (pc := 148) (M := mX8_rank) (as := [.int (nI q1), .int (nI c6)]) dX8_rank_148 fw_X8_at fl_X8_82 fm_X8_at fe_X8_at h19_23 (by decide) rfl rfl rfl (c_X8_at hs (d := d - 1) (Nat.le_trans (by decide) hdm) (w := w23) (n := n) (mv := mv) (rw := rw23) (nx := nx12) (b := b12) (bt := bt12) (kn := kn12) (en := en12) (dn := dn) (rf := rf) (kk := kk) (th := nI (tW 0 0)) ⟨h19_23, h20_23, h21_23, h22_23, hbb_23, hbl_23, hb3_23⟩ hn1 hn2 gm hgrw23 hgnx12 q1 c6 (by first | assumption | omega) (by first | assumption | omega) (kc := 0) (ks := 0)) hdp (st := [.int (nI q5), .ref 19, .int (nI (rw23 (mv (q1 * 7 + c6))))]) (Nat.le_of_ble_eq_true rfl) rfl (kr_P fun v34 hv34 => ?_) kx_I
                          subst hv34
                          have hq35 := gm (q1 * 7 + c6)
                          refine J_callV0 (pc := 151) (M := mX8_rank) (as := [.int (nI q5), .int (nI (mv (q1 * 7 + c6)))]) dX8_rank_151 fw_X8_at fl_X8_82 fm_X8_at fe_X8_at h19_23 (by decide) rfl rfl rfl (c_X8_at hs (d := d - 1) (Nat.le_trans (by decide) hdm) (w := w23) (n := n) (mv := mv) (rw := rw23) (nx := nx12) (b := b12) (bt := bt12) (kn := kn12) (en := en12) (dn := dn) (rf := rf) (kk := kk) (th := nI (tW 0 0)) ⟨h19_23, h20_23, h21_23, h22_23, hbb_23, hbl_23, hb3_23⟩ hn1 hn2 gm hgrw23 hgnx12 q5 (mv (q1 * 7 + c6)) (by first | assumption | omega) (by first | assumption | omega) (kc := 0) (ks := 0)) hdp (st := [.int (nI (rw23 (mv (q1 * 7 + c6))))]) (Nat.le_of_ble_eq_true rfl) rfl (kr_P fun v36 hv36 => ?_) kx_I
                          subst hv36
                          have hq37 := gm (q5 * 7 + (mv (q1 * 7 + c6)))
                          refine J_icmp_geN (pc := 154) (tgt := 160) dX8_rank_154 (by decide) (by omega) (by omega) (fun ht38 => ?_) (fun hf39 => ?_)
                          · have hst : CTt bt12 (fun k => LSr n (fun j => mv (q1 * 7 + j)) (rwF n k) (fun i => mv (q5 * 7 + i))) z4 (c5 - 1 + 1) := by first | exact CTt_y hprev hb61 (LS_y (rd := (fun j => mv (q1 * 7 + j))) (by omega) hv79_1 (by assumption) hgg) | exact CTt_n hprev (LS_n1 (rd := (fun j => mv (q1 * 7 + j))) (by omega) hv79_1 hgg) | exact CTt_n hprev (LS_n2 (rd := (fun j => mv (q1 * 7 + j))) (by omega) hv79_1 (by assumption) (by omega) hgg)
                            refine J_aload_n (pc := 160) dX8_rank_160 rfl rfl rfl ?_
                            refine J_iload (pc := 161) dX8_rank_161 rfl ?_
                            refine J_iconst (pc := 163) (v := nI 1) dX8_rank_163 (by decide) ?_
                            refine J_iaddN (pc := 164) dX8_rank_164 ?_
                            refine J_callV0 (pc := 165) (M := mX8_rank) (as := [.int (nI ((c5 - 1) + 1))]) dX8_rank_165 fw_X8_from fl_X8_137 fm_X8_from fe_X8_from h19_23 (by decide) rfl rfl rfl (c_X8_from hs (d := d - 1) (Nat.le_trans (by decide) hdm) (w := w23) (n := n) (mv := mv) (rw := rw23) (nx := nx12) (b := b12) (bt := bt12) (kn := kn12) (en := en12) (dn := dn) (rf := rf) (kk := kk) (th := nI (tW 0 0)) ⟨h19_23, h20_23, h21_23, h22_23, hbb_23, hbl_23, hb3_23⟩ hn1 hn2 gm hgrw23 hgnx12 ((c5 - 1) + 1) (by first | assumption | omega) (kc := 0) (ks := 0)) hdp (st := []) (Nat.le_of_ble_eq_true rfl) rfl (kr_P fun v40 hv40 => ?_) kx_I
                            rcases hv40 with ⟨rfl, hk40_0⟩ | ⟨q40, rfl, hk40_0, hk40_1, hk40_2, hk40_3⟩
                            · refine J_istore (pc := 168) dX8_rank_168 (by decide) rfl ?_
                              show J X mX8_rank d (kc - 13) (ks - 2054) 170 [some (.ref 19), some (.int (nI q9)), some (.int (nI q1)), some (.int (nI q5)), some (.int (nI z4)), some (.int (-1)), some (.int (nI c6))] [] w23 _
                              refine J_goto (pc := 170) (tgt := 61) dX8_rank_170 (by decide) ?_
                              exact J_sub (L' := [some (.ref 19), some (.int (nI q9)), some (.int (nI q1)), some (.int (nI q5)), some (.int (nI z4)), some (.int (nI 0 + Int32.ofInt (-1))), none]) ⟨rfl, ⟨rfl, ⟨rfl, ⟨rfl, ⟨rfl, ⟨(congrArg (fun z => some (Value.int z)) (by decide : (-1 : Int32) = nI 0 + Int32.ofInt (-1))), trivial⟩⟩⟩⟩⟩⟩ (ihlp61_14 w23 rw23 z4 0 ⟨h19_23, h20_23, h21_23, h22_23, hbb_23, hbl_23, hb3_23⟩ hF23 hgrw23 (by first | assumption | omega) (by intro h; first | (rw [Nat.add_sub_cancel]; assumption) | omega) (by first | exact KI_0 CTt_f hst (by omega) (by assumption) | exact KI_1 CTt_f hst (by omega) (by assumption)) (by exact mu_dec (by assumption) (by omega) (by omega) (by omega)))
                            · refine J_istore (pc := 168) dX8_rank_168 (by decide) rfl ?_
                              show J X mX8_rank d (kc - 13) (ks - 2054) 170 [some (.ref 19), some (.int (nI q9)), some (.int (nI q1)), some (.int (nI q5)), some (.int (nI z4)), some (.int (nI q40)), some (.int (nI c6))] [] w23 _
                              refine J_goto (pc := 170) (tgt := 61) dX8_rank_170 (by decide) ?_
                              exact J_sub (L' := [some (.ref 19), some (.int (nI q9)), some (.int (nI q1)), some (.int (nI q5)), some (.int (nI z4)), some (.int (nI (q40 + 1) + Int32.ofInt (-1))), none]) ⟨rfl, ⟨rfl, ⟨rfl, ⟨rfl, ⟨rfl, ⟨(congrArg (fun z => some (Value.int z)) (nI_n1 q40)), trivial⟩⟩⟩⟩⟩⟩ (ihlp61_14 w23 rw23 z4 (q40 + 1) ⟨h19_23, h20_23, h21_23, h22_23, hbb_23, hbl_23, hb3_23⟩ hF23 hgrw23 (by first | assumption | omega) (by intro h; first | (rw [Nat.add_sub_cancel]; assumption) | omega) (by first | exact KI_0 CTt_f hst (by omega) (by assumption) | exact KI_1 CTt_f hst (by omega) (by assumption)) (by exact mu_dec (by assumption) (by omega) (by omega) (by omega)))
                          · refine J_iincN (pc := 157) (b := 1) dX8_rank_157 rfl (by decide) (by decide) rfl ?_
                            show J X mX8_rank d (kc - 13) (ks - 2054) 160 [some (.ref 19), some (.int (nI q9)), some (.int (nI q1)), some (.int (nI q5)), some (.int (nI (z4 + 1))), some (.int (nI (c5 - 1))), some (.int (nI c6))] [] w23 _
                            have hst : CTt bt12 (fun k => LSr n (fun j => mv (q1 * 7 + j)) (rwF n k) (fun i => mv (q5 * 7 + i))) (z4 + 1) (c5 - 1 + 1) := by first | exact CTt_y hprev hb61 (LS_y (rd := (fun j => mv (q1 * 7 + j))) (by omega) hv79_1 (by assumption) hgg) | exact CTt_n hprev (LS_n1 (rd := (fun j => mv (q1 * 7 + j))) (by omega) hv79_1 hgg) | exact CTt_n hprev (LS_n2 (rd := (fun j => mv (q1 * 7 + j))) (by omega) hv79_1 (by assumption) (by omega) hgg)
                            refine J_aload_n (pc := 160) dX8_rank_160 rfl rfl rfl ?_
                            refine J_iload (pc := 161) dX8_rank_161 rfl ?_
                            refine J_iconst (pc := 163) (v := nI 1) dX8_rank_163 (by decide) ?_
                            refine J_iaddN (pc := 164) dX8_rank_164 ?_
                            refine J_callV0 (pc := 165) (M := mX8_rank) (as := [.int (nI ((c5 - 1) + 1))]) dX8_rank_165 fw_X8_from fl_X8_137 fm_X8_from fe_X8_from h19_23 (by decide) rfl rfl rfl (c_X8_from hs (d := d - 1) (Nat.le_trans (by decide) hdm) (w := w23) (n := n) (mv := mv) (rw := rw23) (nx := nx12) (b := b12) (bt := bt12) (kn := kn12) (en := en12) (dn := dn) (rf := rf) (kk := kk) (th := nI (tW 0 0)) ⟨h19_23, h20_23, h21_23, h22_23, hbb_23, hbl_23, hb3_23⟩ hn1 hn2 gm hgrw23 hgnx12 ((c5 - 1) + 1) (by first | assumption | omega) (kc := 0) (ks := 0)) hdp (st := []) (Nat.le_of_ble_eq_true rfl) rfl (kr_P fun v41 hv41 => ?_) kx_I
                            rcases hv41 with ⟨rfl, hk41_0⟩ | ⟨q41, rfl, hk41_0, hk41_1, hk41_2, hk41_3⟩
                            · refine J_istore (pc := 168) dX8_rank_168 (by decide) rfl ?_
                              show J X mX8_rank d (kc - 13) (ks - 2054) 170 [some (.ref 19), some (.int (nI q9)), some (.int (nI q1)), some (.int (nI q5)), some (.int (nI (z4 + 1))), some (.int (-1)), some (.int (nI c6))] [] w23 _
                              refine J_goto (pc := 170) (tgt := 61) dX8_rank_170 (by decide) ?_
                              exact J_sub (L' := [some (.ref 19), some (.int (nI q9)), some (.int (nI q1)), some (.int (nI q5)), some (.int (nI (z4 + 1))), some (.int (nI 0 + Int32.ofInt (-1))), none]) ⟨rfl, ⟨rfl, ⟨rfl, ⟨rfl, ⟨rfl, ⟨(congrArg (fun z => some (Value.int z)) (by decide : (-1 : Int32) = nI 0 + Int32.ofInt (-1))), trivial⟩⟩⟩⟩⟩⟩ (ihlp61_14 w23 rw23 (z4 + 1) 0 ⟨h19_23, h20_23, h21_23, h22_23, hbb_23, hbl_23, hb3_23⟩ hF23 hgrw23 (by first | assumption | omega) (by intro h; first | (rw [Nat.add_sub_cancel]; assumption) | omega) (by first | exact KI_0 CTt_f hst (by omega) (by assumption) | exact KI_1 CTt_f hst (by omega) (by assumption)) (by exact mu_dec (by assumption) (by omega) (by omega) (by omega)))
                            · refine J_istore (pc := 168) dX8_rank_168 (by decide) rfl ?_
                              show J X mX8_rank d (kc - 13) (ks - 2054) 170 [some (.ref 19), some (.int (nI q9)), some (.int (nI q1)), some (.int (nI q5)), some (.int (nI (z4 + 1))), some (.int (nI q41)), some (.int (nI c6))] [] w23 _
                              refine J_goto (pc := 170) (tgt := 61) dX8_rank_170 (by decide) ?_
                              exact J_sub (L' := [some (.ref 19), some (.int (nI q9)), some (.int (nI q1)), some (.int (nI q5)), some (.int (nI (z4 + 1))), some (.int (nI (q41 + 1) + Int32.ofInt (-1))), none]) ⟨rfl, ⟨rfl, ⟨rfl, ⟨rfl, ⟨rfl, ⟨(congrArg (fun z => some (Value.int z)) (nI_n1 q41)), trivial⟩⟩⟩⟩⟩⟩ (ihlp61_14 w23 rw23 (z4 + 1) (q41 + 1) ⟨h19_23, h20_23, h21_23, h22_23, hbb_23, hbl_23, hb3_23⟩ hF23 hgrw23 (by first | assumption | omega) (by intro h; first | (rw [Nat.add_sub_cancel]; assumption) | omega) (by first | exact KI_0 CTt_f hst (by omega) (by assumption) | exact KI_1 CTt_f hst (by omega) (by assumption)) (by exact mu_dec (by assumption) (by omega) (by omega) (by omega)))
                      · refine J_aload_n (pc := 88) dX8_rank_88 rfl rfl rfl ?_
                        refine J_get (pc := 89) (k := 2) dX8_rank_89 kC9 (by decide) ff_X8_17 h19_23 rfl ?_
                        refine J_aload_n (pc := 92) dX8_rank_92 rfl rfl rfl ?_
                        refine J_iload_n (pc := 93) dX8_rank_93 rfl rfl ?_
                        refine J_iload (pc := 94) dX8_rank_94 rfl ?_
                        refine J_callV0 (pc := 96) (M := mX8_rank) (as := [.int (nI q1), .int (nI c6)]) dX8_rank_96 fw_X8_at fl_X8_82 fm_X8_at fe_X8_at h19_23 (by decide) rfl rfl rfl (c_X8_at hs (d := d - 1) (Nat.le_trans (by decide) hdm) (w := w23) (n := n) (mv := mv) (rw := rw23) (nx := nx12) (b := b12) (bt := bt12) (kn := kn12) (en := en12) (dn := dn) (rf := rf) (kk := kk) (th := nI (tW 0 0)) ⟨h19_23, h20_23, h21_23, h22_23, hbb_23, hbl_23, hb3_23⟩ hn1 hn2 gm hgrw23 hgnx12 q1 c6 (by first | assumption | omega) (by first | assumption | omega) (kc := 0) (ks := 0)) hdp (st := [.ref 21]) (Nat.le_of_ble_eq_true rfl) rfl (kr_P fun v42 hv42 => ?_) kx_I
                        subst hv42
                        have hq43 := gm (q1 * 7 + c6)
                        refine J_ialdF (pc := 99) dX8_rank_99 h21_23 (by omega) (by decide) ?_
                        have hq44 := hgrw23 (mv (q1 * 7 + c6))
                        refine J_aload_n (pc := 100) dX8_rank_100 rfl rfl rfl ?_
                        refine J_iload_n (pc := 101) dX8_rank_101 rfl rfl ?_
                        refine J_aload_n (pc := 102) dX8_rank_102 rfl rfl rfl ?_
                        refine J_iload_n (pc := 103) dX8_rank_103 rfl rfl ?_
                        refine J_iload (pc := 104) dX8_rank_104 rfl ?_
                        refine J_callV0 (pc := 106) (M := mX8_rank) (as := [.int (nI q1), .int (nI c6)]) dX8_rank_106 fw_X8_at fl_X8_82 fm_X8_at fe_X8_at h19_23 (by decide) rfl rfl rfl (c_X8_at hs (d := d - 1) (Nat.le_trans (by decide) hdm) (w := w23) (n := n) (mv := mv) (rw := rw23) (nx := nx12) (b := b12) (bt := bt12) (kn := kn12) (en := en12) (dn := dn) (rf := rf) (kk := kk) (th := nI (tW 0 0)) ⟨h19_23, h20_23, h21_23, h22_23, hbb_23, hbl_23, hb3_23⟩ hn1 hn2 gm hgrw23 hgnx12 q1 c6 (by first | assumption | omega) (by first | assumption | omega) (kc := 0) (ks := 0)) hdp (st := [.int (nI q5), .ref 19, .int (nI (rw23 (mv (q1 * 7 + c6))))]) (Nat.le_of_ble_eq_true rfl) rfl (kr_P fun v45 hv45 => ?_) kx_I
                        subst hv45
                        have hq46 := gm (q1 * 7 + c6)
                        refine J_callV0 (pc := 109) (M := mX8_rank) (as := [.int (nI q5), .int (nI (mv (q1 * 7 + c6)))]) dX8_rank_109 fw_X8_at fl_X8_82 fm_X8_at fe_X8_at h19_23 (by decide) rfl rfl rfl (c_X8_at hs (d := d - 1) (Nat.le_trans (by decide) hdm) (w := w23) (n := n) (mv := mv) (rw := rw23) (nx := nx12) (b := b12) (bt := bt12) (kn := kn12) (en := en12) (dn := dn) (rf := rf) (kk := kk) (th := nI (tW 0 0)) ⟨h19_23, h20_23, h21_23, h22_23, hbb_23, hbl_23, hb3_23⟩ hn1 hn2 gm hgrw23 hgnx12 q5 (mv (q1 * 7 + c6)) (by first | assumption | omega) (by first | assumption | omega) (kc := 0) (ks := 0)) hdp (st := [.int (nI (rw23 (mv (q1 * 7 + c6))))]) (Nat.le_of_ble_eq_true rfl) rfl (kr_P fun v47 hv47 => ?_) kx_I
                        subst hv47
                        have hq48 := gm (q5 * 7 + (mv (q1 * 7 + c6)))
                        refine J_icmp_neN (pc := 112) (tgt := 121) dX8_rank_112 (by decide) (by omega) (by omega) (fun ht49 => ?_) (fun hf50 => ?_)
                        · have hgg : ∀ j, j < n → rw23 ((fun j => mv (q1 * 7 + j)) j) = rwF n (c5 - 1) ((fun j => mv (q1 * 7 + j)) j) := fun j hj => hrow _ ((hy0 q1 (by omega)).1 j hj)
                          refine J_iload (pc := 121) dX8_rank_121 rfl ?_
                          refine J_aload_n (pc := 123) dX8_rank_123 rfl rfl rfl ?_
                          refine J_get (pc := 124) (k := 0) dX8_rank_124 kC9 (by decide) ff_X8_7 h19_23 rfl ?_
                          refine J_icmp_geN (pc := 127) (tgt := 160) dX8_rank_127 (by decide) (by omega) (by omega) (fun ht51 => ?_) (fun hf52 => ?_)
                          · have hst : CTt bt12 (fun k => LSr n (fun j => mv (q1 * 7 + j)) (rwF n k) (fun i => mv (q5 * 7 + i))) z4 (c5 - 1 + 1) := by first | exact CTt_y hprev hb61 (LS_y (rd := (fun j => mv (q1 * 7 + j))) (by omega) hv79_1 (by assumption) hgg) | exact CTt_n hprev (LS_n1 (rd := (fun j => mv (q1 * 7 + j))) (by omega) hv79_1 hgg) | exact CTt_n hprev (LS_n2 (rd := (fun j => mv (q1 * 7 + j))) (by omega) hv79_1 (by assumption) (by omega) hgg)
                            refine J_aload_n (pc := 160) dX8_rank_160 rfl rfl rfl ?_
                            refine J_iload (pc := 161) dX8_rank_161 rfl ?_
                            refine J_iconst (pc := 163) (v := nI 1) dX8_rank_163 (by decide) ?_
                            refine J_iaddN (pc := 164) dX8_rank_164 ?_
                            refine J_callV0 (pc := 165) (M := mX8_rank) (as := [.int (nI ((c5 - 1) + 1))]) dX8_rank_165 fw_X8_from fl_X8_137 fm_X8_from fe_X8_from h19_23 (by decide) rfl rfl rfl (c_X8_from hs (d := d - 1) (Nat.le_trans (by decide) hdm) (w := w23) (n := n) (mv := mv) (rw := rw23) (nx := nx12) (b := b12) (bt := bt12) (kn := kn12) (en := en12) (dn := dn) (rf := rf) (kk := kk) (th := nI (tW 0 0)) ⟨h19_23, h20_23, h21_23, h22_23, hbb_23, hbl_23, hb3_23⟩ hn1 hn2 gm hgrw23 hgnx12 ((c5 - 1) + 1) (by first | assumption | omega) (kc := 0) (ks := 0)) hdp (st := []) (Nat.le_of_ble_eq_true rfl) rfl (kr_P fun v53 hv53 => ?_) kx_I
                            rcases hv53 with ⟨rfl, hk53_0⟩ | ⟨q53, rfl, hk53_0, hk53_1, hk53_2, hk53_3⟩
                            · refine J_istore (pc := 168) dX8_rank_168 (by decide) rfl ?_
                              show J X mX8_rank d (kc - 13) (ks - 2054) 170 [some (.ref 19), some (.int (nI q9)), some (.int (nI q1)), some (.int (nI q5)), some (.int (nI z4)), some (.int (-1)), some (.int (nI c6))] [] w23 _
                              refine J_goto (pc := 170) (tgt := 61) dX8_rank_170 (by decide) ?_
                              exact J_sub (L' := [some (.ref 19), some (.int (nI q9)), some (.int (nI q1)), some (.int (nI q5)), some (.int (nI z4)), some (.int (nI 0 + Int32.ofInt (-1))), none]) ⟨rfl, ⟨rfl, ⟨rfl, ⟨rfl, ⟨rfl, ⟨(congrArg (fun z => some (Value.int z)) (by decide : (-1 : Int32) = nI 0 + Int32.ofInt (-1))), trivial⟩⟩⟩⟩⟩⟩ (ihlp61_14 w23 rw23 z4 0 ⟨h19_23, h20_23, h21_23, h22_23, hbb_23, hbl_23, hb3_23⟩ hF23 hgrw23 (by first | assumption | omega) (by intro h; first | (rw [Nat.add_sub_cancel]; assumption) | omega) (by first | exact KI_0 CTt_f hst (by omega) (by assumption) | exact KI_1 CTt_f hst (by omega) (by assumption)) (by exact mu_dec (by assumption) (by omega) (by omega) (by omega)))
                            · refine J_istore (pc := 168) dX8_rank_168 (by decide) rfl ?_
                              show J X mX8_rank d (kc - 13) (ks - 2054) 170 [some (.ref 19), some (.int (nI q9)), some (.int (nI q1)), some (.int (nI q5)), some (.int (nI z4)), some (.int (nI q53)), some (.int (nI c6))] [] w23 _
                              refine J_goto (pc := 170) (tgt := 61) dX8_rank_170 (by decide) ?_
                              exact J_sub (L' := [some (.ref 19), some (.int (nI q9)), some (.int (nI q1)), some (.int (nI q5)), some (.int (nI z4)), some (.int (nI (q53 + 1) + Int32.ofInt (-1))), none]) ⟨rfl, ⟨rfl, ⟨rfl, ⟨rfl, ⟨rfl, ⟨(congrArg (fun z => some (Value.int z)) (nI_n1 q53)), trivial⟩⟩⟩⟩⟩⟩ (ihlp61_14 w23 rw23 z4 (q53 + 1) ⟨h19_23, h20_23, h21_23, h22_23, hbb_23, hbl_23, hb3_23⟩ hF23 hgrw23 (by first | assumption | omega) (by intro h; first | (rw [Nat.add_sub_cancel]; assumption) | omega) (by first | exact KI_0 CTt_f hst (by omega) (by assumption) | exact KI_1 CTt_f hst (by omega) (by assumption)) (by exact mu_dec (by assumption) (by omega) (by omega) (by omega)))
                          · refine J_aload_n (pc := 130) dX8_rank_130 rfl rfl rfl ?_
                            refine J_get (pc := 131) (k := 2) dX8_rank_131 kC9 (by decide) ff_X8_17 h19_23 rfl ?_
                            refine J_aload_n (pc := 134) dX8_rank_134 rfl rfl rfl ?_
                            refine J_iload_n (pc := 135) dX8_rank_135 rfl rfl ?_
                            refine J_iload (pc := 136) dX8_rank_136 rfl ?_
                            refine J_callV0 (pc := 138) (M := mX8_rank) (as := [.int (nI q1), .int (nI c6)]) dX8_rank_138 fw_X8_at fl_X8_82 fm_X8_at fe_X8_at h19_23 (by decide) rfl rfl rfl (c_X8_at hs (d := d - 1) (Nat.le_trans (by decide) hdm) (w := w23) (n := n) (mv := mv) (rw := rw23) (nx := nx12) (b := b12) (bt := bt12) (kn := kn12) (en := en12) (dn := dn) (rf := rf) (kk := kk) (th := nI (tW 0 0)) ⟨h19_23, h20_23, h21_23, h22_23, hbb_23, hbl_23, hb3_23⟩ hn1 hn2 gm hgrw23 hgnx12 q1 c6 (by first | assumption | omega) (by first | assumption | omega) (kc := 0) (ks := 0)) hdp (st := [.ref 21]) (Nat.le_of_ble_eq_true rfl) rfl (kr_P fun v54 hv54 => ?_) kx_I
                            subst hv54
                            have hq55 := gm (q1 * 7 + c6)
                            refine J_ialdF (pc := 141) dX8_rank_141 h21_23 (by omega) (by decide) ?_
                            have hq56 := hgrw23 (mv (q1 * 7 + c6))
                            refine J_aload_n (pc := 142) dX8_rank_142 rfl rfl rfl ?_
                            refine J_iload_n (pc := 143) dX8_rank_143 rfl rfl ?_
                            refine J_aload_n (pc := 144) dX8_rank_144 rfl rfl rfl ?_
                            refine J_iload_n (pc := 145) dX8_rank_145 rfl rfl ?_
                            refine J_iload (pc := 146) dX8_rank_146 rfl ?_
                            refine J_callV0 (pc := 148) (M := mX8_rank) (as := [.int (nI q1), .int (nI c6)]) dX8_rank_148 fw_X8_at fl_X8_82 fm_X8_at fe_X8_at h19_23 (by decide) rfl rfl rfl (c_X8_at hs (d := d - 1) (Nat.le_trans (by decide) hdm) (w := w23) (n := n) (mv := mv) (rw := rw23) (nx := nx12) (b := b12) (bt := bt12) (kn := kn12) (en := en12) (dn := dn) (rf := rf) (kk := kk) (th := nI (tW 0 0)) ⟨h19_23, h20_23, h21_23, h22_23, hbb_23, hbl_23, hb3_23⟩ hn1 hn2 gm hgrw23 hgnx12 q1 c6 (by first | assumption | omega) (by first | assumption | omega) (kc := 0) (ks := 0)) hdp (st := [.int (nI q5), .ref 19, .int (nI (rw23 (mv (q1 * 7 + c6))))]) (Nat.le_of_ble_eq_true rfl) rfl (kr_P fun v57 hv57 => ?_) kx_I
                            subst hv57
                            have hq58 := gm (q1 * 7 + c6)
                            refine J_callV0 (pc := 151) (M := mX8_rank) (as := [.int (nI q5), .int (nI (mv (q1 * 7 + c6)))]) dX8_rank_151 fw_X8_at fl_X8_82 fm_X8_at fe_X8_at h19_23 (by decide) rfl rfl rfl (c_X8_at hs (d := d - 1) (Nat.le_trans (by decide) hdm) (w := w23) (n := n) (mv := mv) (rw := rw23) (nx := nx12) (b := b12) (bt := bt12) (kn := kn12) (en := en12) (dn := dn) (rf := rf) (kk := kk) (th := nI (tW 0 0)) ⟨h19_23, h20_23, h21_23, h22_23, hbb_23, hbl_23, hb3_23⟩ hn1 hn2 gm hgrw23 hgnx12 q5 (mv (q1 * 7 + c6)) (by first | assumption | omega) (by first | assumption | omega) (kc := 0) (ks := 0)) hdp (st := [.int (nI (rw23 (mv (q1 * 7 + c6))))]) (Nat.le_of_ble_eq_true rfl) rfl (kr_P fun v59 hv59 => ?_) kx_I
                            subst hv59
                            have hq60 := gm (q5 * 7 + (mv (q1 * 7 + c6)))
                            refine J_icmp_geN (pc := 154) (tgt := 160) dX8_rank_154 (by decide) (by omega) (by omega) (fun ht61 => ?_) (fun hf62 => ?_)
                            · have hst : CTt bt12 (fun k => LSr n (fun j => mv (q1 * 7 + j)) (rwF n k) (fun i => mv (q5 * 7 + i))) z4 (c5 - 1 + 1) := by first | exact CTt_y hprev hb61 (LS_y (rd := (fun j => mv (q1 * 7 + j))) (by omega) hv79_1 (by assumption) hgg) | exact CTt_n hprev (LS_n1 (rd := (fun j => mv (q1 * 7 + j))) (by omega) hv79_1 hgg) | exact CTt_n hprev (LS_n2 (rd := (fun j => mv (q1 * 7 + j))) (by omega) hv79_1 (by assumption) (by omega) hgg)
                              refine J_aload_n (pc := 160) dX8_rank_160 rfl rfl rfl ?_
                              refine J_iload (pc := 161) dX8_rank_161 rfl ?_
                              refine J_iconst (pc := 163) (v := nI 1) dX8_rank_163 (by decide) ?_
                              refine J_iaddN (pc := 164) dX8_rank_164 ?_
                              refine J_callV0 (pc := 165) (M := mX8_rank) (as := [.int (nI ((c5 - 1) + 1))]) dX8_rank_165 fw_X8_from fl_X8_137 fm_X8_from fe_X8_from h19_23 (by decide) rfl rfl rfl (c_X8_from hs (d := d - 1) (Nat.le_trans (by decide) hdm) (w := w23) (n := n) (mv := mv) (rw := rw23) (nx := nx12) (b := b12) (bt := bt12) (kn := kn12) (en := en12) (dn := dn) (rf := rf) (kk := kk) (th := nI (tW 0 0)) ⟨h19_23, h20_23, h21_23, h22_23, hbb_23, hbl_23, hb3_23⟩ hn1 hn2 gm hgrw23 hgnx12 ((c5 - 1) + 1) (by first | assumption | omega) (kc := 0) (ks := 0)) hdp (st := []) (Nat.le_of_ble_eq_true rfl) rfl (kr_P fun v63 hv63 => ?_) kx_I
                              rcases hv63 with ⟨rfl, hk63_0⟩ | ⟨q63, rfl, hk63_0, hk63_1, hk63_2, hk63_3⟩
                              · refine J_istore (pc := 168) dX8_rank_168 (by decide) rfl ?_
                                show J X mX8_rank d (kc - 13) (ks - 2054) 170 [some (.ref 19), some (.int (nI q9)), some (.int (nI q1)), some (.int (nI q5)), some (.int (nI z4)), some (.int (-1)), some (.int (nI c6))] [] w23 _
                                refine J_goto (pc := 170) (tgt := 61) dX8_rank_170 (by decide) ?_
                                exact J_sub (L' := [some (.ref 19), some (.int (nI q9)), some (.int (nI q1)), some (.int (nI q5)), some (.int (nI z4)), some (.int (nI 0 + Int32.ofInt (-1))), none]) ⟨rfl, ⟨rfl, ⟨rfl, ⟨rfl, ⟨rfl, ⟨(congrArg (fun z => some (Value.int z)) (by decide : (-1 : Int32) = nI 0 + Int32.ofInt (-1))), trivial⟩⟩⟩⟩⟩⟩ (ihlp61_14 w23 rw23 z4 0 ⟨h19_23, h20_23, h21_23, h22_23, hbb_23, hbl_23, hb3_23⟩ hF23 hgrw23 (by first | assumption | omega) (by intro h; first | (rw [Nat.add_sub_cancel]; assumption) | omega) (by first | exact KI_0 CTt_f hst (by omega) (by assumption) | exact KI_1 CTt_f hst (by omega) (by assumption)) (by exact mu_dec (by assumption) (by omega) (by omega) (by omega)))
                              · refine J_istore (pc := 168) dX8_rank_168 (by decide) rfl ?_
                                show J X mX8_rank d (kc - 13) (ks - 2054) 170 [some (.ref 19), some (.int (nI q9)), some (.int (nI q1)), some (.int (nI q5)), some (.int (nI z4)), some (.int (nI q63)), some (.int (nI c6))] [] w23 _
                                refine J_goto (pc := 170) (tgt := 61) dX8_rank_170 (by decide) ?_
                                exact J_sub (L' := [some (.ref 19), some (.int (nI q9)), some (.int (nI q1)), some (.int (nI q5)), some (.int (nI z4)), some (.int (nI (q63 + 1) + Int32.ofInt (-1))), none]) ⟨rfl, ⟨rfl, ⟨rfl, ⟨rfl, ⟨rfl, ⟨(congrArg (fun z => some (Value.int z)) (nI_n1 q63)), trivial⟩⟩⟩⟩⟩⟩ (ihlp61_14 w23 rw23 z4 (q63 + 1) ⟨h19_23, h20_23, h21_23, h22_23, hbb_23, hbl_23, hb3_23⟩ hF23 hgrw23 (by first | assumption | omega) (by intro h; first | (rw [Nat.add_sub_cancel]; assumption) | omega) (by first | exact KI_0 CTt_f hst (by omega) (by assumption) | exact KI_1 CTt_f hst (by omega) (by assumption)) (by exact mu_dec (by assumption) (by omega) (by omega) (by omega)))
                            · refine J_iincN (pc := 157) (b := 1) dX8_rank_157 rfl (by decide) (by decide) rfl ?_
                              show J X mX8_rank d (kc - 13) (ks - 2054) 160 [some (.ref 19), some (.int (nI q9)), some (.int (nI q1)), some (.int (nI q5)), some (.int (nI (z4 + 1))), some (.int (nI (c5 - 1))), some (.int (nI c6))] [] w23 _
                              have hst : CTt bt12 (fun k => LSr n (fun j => mv (q1 * 7 + j)) (rwF n k) (fun i => mv (q5 * 7 + i))) (z4 + 1) (c5 - 1 + 1) := by first | exact CTt_y hprev hb61 (LS_y (rd := (fun j => mv (q1 * 7 + j))) (by omega) hv79_1 (by assumption) hgg) | exact CTt_n hprev (LS_n1 (rd := (fun j => mv (q1 * 7 + j))) (by omega) hv79_1 hgg) | exact CTt_n hprev (LS_n2 (rd := (fun j => mv (q1 * 7 + j))) (by omega) hv79_1 (by assumption) (by omega) hgg)
                              refine J_aload_n (pc := 160) dX8_rank_160 rfl rfl rfl ?_
                              refine J_iload (pc := 161) dX8_rank_161 rfl ?_
                              refine J_iconst (pc := 163) (v := nI 1) dX8_rank_163 (by decide) ?_
                              refine J_iaddN (pc := 164) dX8_rank_164 ?_
                              refine J_callV0 (pc := 165) (M := mX8_rank) (as := [.int (nI ((c5 - 1) + 1))]) dX8_rank_165 fw_X8_from fl_X8_137 fm_X8_from fe_X8_from h19_23 (by decide) rfl rfl rfl (c_X8_from hs (d := d - 1) (Nat.le_trans (by decide) hdm) (w := w23) (n := n) (mv := mv) (rw := rw23) (nx := nx12) (b := b12) (bt := bt12) (kn := kn12) (en := en12) (dn := dn) (rf := rf) (kk := kk) (th := nI (tW 0 0)) ⟨h19_23, h20_23, h21_23, h22_23, hbb_23, hbl_23, hb3_23⟩ hn1 hn2 gm hgrw23 hgnx12 ((c5 - 1) + 1) (by first | assumption | omega) (kc := 0) (ks := 0)) hdp (st := []) (Nat.le_of_ble_eq_true rfl) rfl (kr_P fun v64 hv64 => ?_) kx_I
                              rcases hv64 with ⟨rfl, hk64_0⟩ | ⟨q64, rfl, hk64_0, hk64_1, hk64_2, hk64_3⟩
                              · refine J_istore (pc := 168) dX8_rank_168 (by decide) rfl ?_
                                show J X mX8_rank d (kc - 13) (ks - 2054) 170 [some (.ref 19), some (.int (nI q9)), some (.int (nI q1)), some (.int (nI q5)), some (.int (nI (z4 + 1))), some (.int (-1)), some (.int (nI c6))] [] w23 _
                                refine J_goto (pc := 170) (tgt := 61) dX8_rank_170 (by decide) ?_
                                exact J_sub (L' := [some (.ref 19), some (.int (nI q9)), some (.int (nI q1)), some (.int (nI q5)), some (.int (nI (z4 + 1))), some (.int (nI 0 + Int32.ofInt (-1))), none]) ⟨rfl, ⟨rfl, ⟨rfl, ⟨rfl, ⟨rfl, ⟨(congrArg (fun z => some (Value.int z)) (by decide : (-1 : Int32) = nI 0 + Int32.ofInt (-1))), trivial⟩⟩⟩⟩⟩⟩ (ihlp61_14 w23 rw23 (z4 + 1) 0 ⟨h19_23, h20_23, h21_23, h22_23, hbb_23, hbl_23, hb3_23⟩ hF23 hgrw23 (by first | assumption | omega) (by intro h; first | (rw [Nat.add_sub_cancel]; assumption) | omega) (by first | exact KI_0 CTt_f hst (by omega) (by assumption) | exact KI_1 CTt_f hst (by omega) (by assumption)) (by exact mu_dec (by assumption) (by omega) (by omega) (by omega)))
                              · refine J_istore (pc := 168) dX8_rank_168 (by decide) rfl ?_
                                show J X mX8_rank d (kc - 13) (ks - 2054) 170 [some (.ref 19), some (.int (nI q9)), some (.int (nI q1)), some (.int (nI q5)), some (.int (nI (z4 + 1))), some (.int (nI q64)), some (.int (nI c6))] [] w23 _
                                refine J_goto (pc := 170) (tgt := 61) dX8_rank_170 (by decide) ?_
                                exact J_sub (L' := [some (.ref 19), some (.int (nI q9)), some (.int (nI q1)), some (.int (nI q5)), some (.int (nI (z4 + 1))), some (.int (nI (q64 + 1) + Int32.ofInt (-1))), none]) ⟨rfl, ⟨rfl, ⟨rfl, ⟨rfl, ⟨rfl, ⟨(congrArg (fun z => some (Value.int z)) (nI_n1 q64)), trivial⟩⟩⟩⟩⟩⟩ (ihlp61_14 w23 rw23 (z4 + 1) (q64 + 1) ⟨h19_23, h20_23, h21_23, h22_23, hbb_23, hbl_23, hb3_23⟩ hF23 hgrw23 (by first | assumption | omega) (by intro h; first | (rw [Nat.add_sub_cancel]; assumption) | omega) (by first | exact KI_0 CTt_f hst (by omega) (by assumption) | exact KI_1 CTt_f hst (by omega) (by assumption)) (by exact mu_dec (by assumption) (by omega) (by omega) (by omega)))
                        · refine J_iincN (pc := 115) (b := 1) dX8_rank_115 rfl (by decide) (by decide) rfl ?_
                          show J X mX8_rank d (kc - 13) (ks - 2054) 118 [some (.ref 19), some (.int (nI q9)), some (.int (nI q1)), some (.int (nI q5)), some (.int (nI z4)), some (.int (nI (c5 - 1))), some (.int (nI (c6 + 1)))] [] w23 _
                          refine J_goto (pc := 118) (tgt := 79) dX8_rank_118 (by decide) ?_
                          exact J_sub (L' := [some (.ref 19), some (.int (nI q9)), some (.int (nI q1)), some (.int (nI q5)), some (.int (nI z4)), some (.int (nI (c5 - 1))), some (.int (nI (c6 + 1)))]) ⟨rfl, ⟨rfl, ⟨rfl, ⟨rfl, ⟨rfl, ⟨rfl, ⟨rfl, trivial⟩⟩⟩⟩⟩⟩⟩ (ihlp79_24 (c6 + 1) (by first | assumption | omega) (by intro j hj; by_cases e : j = c6; (rw [e]; assumption); (exact hv79_1 j (by omega))) (by omega))
                  exact J_sub (L' := [some (.ref 19), some (.int (nI q9)), some (.int (nI q1)), some (.int (nI q5)), some (.int (nI z4)), some (.int (nI (c5 - 1))), some (.int (nI 0))]) ⟨rfl, ⟨rfl, ⟨rfl, ⟨rfl, ⟨rfl, ⟨rfl, ⟨rfl, trivial⟩⟩⟩⟩⟩⟩⟩ (lp79_24 _ 0 (by first | assumption | omega) (by intro j hj; omega) (Nat.lt_succ_self _))
            exact J_sub (L' := [some (.ref 19), some (.int (nI q9)), some (.int (nI q1)), some (.int (nI q5)), some (.int (nI 0)), some (.int (nI 0 + Int32.ofInt (-1))), none]) ⟨rfl, ⟨rfl, ⟨rfl, ⟨rfl, ⟨rfl, ⟨(congrArg (fun z => some (Value.int z)) (by decide : (-1 : Int32) = nI 0 + Int32.ofInt (-1))), trivial⟩⟩⟩⟩⟩⟩ (lp61_14 _ w12 rw12 0 0 ⟨h19_12, h20_12, h21_12, h22_12, hbb_12, hbl_12, hb3_12⟩ hF12 hgrw12 (by first | assumption | omega) (by intro h; first | (rw [Nat.add_sub_cancel]; assumption) | omega) (by first | exact KI_0 CTt_f CTt_0 (Nat.zero_le _) (by assumption) | exact KI_1 CTt_f CTt_0 (Nat.zero_le _) (by assumption)) (Nat.lt_succ_self _))
          · refine J_istore (pc := 59) dX8_rank_59 (by decide) rfl ?_
            show J X mX8_rank d (kc - 13) (ks - 2054) 61 [some (.ref 19), some (.int (nI q9)), some (.int (nI q1)), some (.int (nI q5)), some (.int (nI 0)), some (.int (nI q13)), none] [] w12 _
            have lp61_65 : ∀ (fuel : Nat) (w66 : List jC) (rw_61 : Nat → Nat) (z4 : Nat) (c5 : Nat), (RM n mv rw_61 nx12 b12 bt12 kn12 en12 dn rf kk (nI (tW 0 0)) w66) → (FR b b12 w w66) → (∀ i, rw_61 i < 7) → (c5 ≤ fc n) → (0 < c5 → bitL bt12 (c5 - 1) = true) → (CTt bt12 (fun k => LSr n (fun j => mv (q1 * 7 + j)) (rwF n k) (fun i => mv (q5 * 7 + i))) z4 (KK (fc n) c5)) → (mu (fc n) c5 < fuel) → J X mX8_rank d (kc - 13) (ks - 2054) 61 [some (.ref 19), some (.int (nI q9)), some (.int (nI q1)), some (.int (nI q5)), some (.int (nI z4)), some (.int (nI c5 + Int32.ofInt (-1))), none] [] w66 (pJ (fun v w' => ∃ (rw' : Nat → Nat), ∃ (nx' : Nat → Nat), ∃ (b' : Nat), ∃ (bt' : List Int32), ∃ (kn' : Int32), ∃ (en' : Int32), ∃ (th' : Int32), RM n mv rw' nx' b' bt' kn' en' dn rf kk th' w' ∧ FR b b' w w' ∧ (∀ i, rw' i < 7) ∧ (∀ i, nx' i < 7) ∧ KX n mv kn' bt' ∧ ((th' = nI 1 ∧ ¬ (isN (nI q1) 6 ∧ isN (nI q5) 6)) ∨ (th' = nI 2 ∧ (isN (nI q1) 6 ∧ isN (nI q5) 6) ∧ ¬ (isN (nI q9) 64)) ∨ (th' = nI 0 ∧ ∃ a1 b1 c1 : Nat, (nI q9) = nI a1 ∧ (nI q1) = nI b1 ∧ (nI q5) = nI c1 ∧ a1 < 64 ∧ b1 < 6 ∧ c1 < 6 ∧ ((v = (-1) ∧ ¬ (Gg n (gS (mW n mv) a1 6)) (mW n mv c1)) ∨ ((Gg n (gS (mW n mv) a1 6)) (mW n mv c1) ∧ v = nI (cd n (fun x => (Gg n (gS (mW n mv) a1 6)) x ∧ LSr n (fun j => mv (b1 * 7 + j)) (d8 x) (d8 (mW n mv c1)))))))))) := by
              intro fuellp61_65
              induction fuellp61_65 with
              | zero => intros; omega
              | succ fuellp61_65 ihlp61_65 =>
                intro w66 rw_61 z4 c5 hR67 hF68 gr69 hv61_0 hv61_1 hv61_2 hf70
                obtain ⟨h19_71, h20_71, h21_71, h22_71, hb_71, hbl_71, hb3_71⟩ := hR67
                refine J_iload (pc := 61) dX8_rank_61 rfl ?_
                refine J_if_ltM (pc := 63) (tgt := 173) dX8_rank_63 (by decide) (by omega) (fun ht72 => ?_) (fun hf73 => ?_)
                · have hend := CTt_end (n := n) (Q := fun x => LSr n (fun j => mv (q1 * 7 + j)) (d8 x) (d8 (mW n mv q5))) hBX (fun k hk => LS_iff (rd := (fun j => mv (q1 * 7 + j))) (by omega) hn2 (fun j hj => (hy0 q1 (by omega)).1 j hj) (fun p hp => (mW_d hn2 hy0 (c := q5) (by omega) hp).symm)) (by have h := hv61_2; rw [show c5 = 0 by omega, KK_0] at h; exact h)
                  refine J_iload (pc := 173) dX8_rank_173 rfl ?_
                  exact J_iret (pc := 175) dX8_rank_175 rfl (⟨rw_61, nx12, b12, bt12, kn12, en12, nI (tW 0 0), ⟨h19_71, h20_71, h21_71, h22_71, hb_71, hbl_71, hb3_71⟩, hF68, gr69, hgnx12, (by first | assumption | exact KX_i (by assumption) (by assumption) (by first | rfl | assumption)), (by first | exact Or.inl ⟨rfl, fun g => (by first | exact ne_isN (by assumption) g | exact ne_isN (by assumption) g.1 | exact ne_isN (by assumption) g.2)⟩ | exact Or.inr (Or.inl ⟨rfl, ⟨isN_of (by first | assumption | omega), isN_of (by first | assumption | omega)⟩, fun g => (by first | exact ne_isN (by assumption) g | exact ne_isN (by assumption) g.1 | exact ne_isN (by assumption) g.2)⟩) | exact Or.inr (Or.inr ⟨rfl, ⟨_, _, _, rfl, rfl, rfl, (by omega), (by omega), (by omega), (by first | exact Or.inl ⟨rfl, by assumption⟩ | exact Or.inr ⟨by assumption, congrArg nI hend⟩)⟩⟩))⟩)
                · rw [nI_m1 hf73]
                  have hb61 := hv61_1 (by omega)
                  have hprev : CTt bt12 (fun k => LSr n (fun j => mv (q1 * 7 + j)) (rwF n k) (fun i => mv (q5 * 7 + i))) z4 (c5 - 1) := by
                    have h := hv61_2
                    rw [KK_p (by omega)] at h
                    exact h
                  refine J_aload_n (pc := 66) dX8_rank_66 rfl rfl rfl ?_
                  refine J_iload (pc := 67) dX8_rank_67 rfl ?_
                  refine J_aload_n (pc := 69) dX8_rank_69 rfl rfl rfl ?_
                  refine J_get (pc := 70) (k := 2) dX8_rank_70 kC9 (by decide) ff_X8_17 h19_71 rfl ?_
                  refine J_callV0 (pc := 73) (M := mX8_rank) (as := [.int (nI (c5 - 1)), .ref 21]) dX8_rank_73 fw_X8_rowOf fl_X8_78 fm_X8_rowOf fe_X8_rowOf h19_71 (by decide) rfl rfl rfl (c_X8_rowOf hs (d := d - 1) (Nat.le_trans (by decide) hdm) (w := w66) (n := n) (mv := mv) (rw := rw_61) (nx := nx12) (b := b12) (bt := bt12) (kn := kn12) (en := en12) (dn := dn) (rf := rf) (kk := kk) (th := nI (tW 0 0)) ⟨h19_71, h20_71, h21_71, h22_71, hb_71, hbl_71, hb3_71⟩ hn1 hn2 gm gr69 hgnx12 (c5 - 1) (by first | assumption | omega) (kc := 0) (ks := 0)) hdp (st := []) (Nat.le_of_ble_eq_true rfl) rfl (kr_V fun w74 hw74 => ?_) kx_V
                  obtain ⟨rw74, hR74, hFc74, hgrw74, hp74_0⟩ := hw74
                  obtain ⟨h19_74, h20_74, h21_74, h22_74, hbb_74, hbl_74, hb3_74⟩ := hR74
                  have hF74 := hF68.tr hFc74
                  have hrow := hp74_0
                  refine J_iconst (pc := 76) (v := nI 0) dX8_rank_76 (by decide) ?_
                  refine J_istore (pc := 77) dX8_rank_77 (by decide) rfl ?_
                  show J X mX8_rank d (kc - 13) (ks - 2054) 79 [some (.ref 19), some (.int (nI q9)), some (.int (nI q1)), some (.int (nI q5)), some (.int (nI z4)), some (.int (nI (c5 - 1))), some (.int (nI 0))] [] w74 _
                  have lp79_75 : ∀ (fuel : Nat) (c6 : Nat), (c6 ≤ n) → (∀ j, j < c6 → rw74 ((fun j => mv (q1 * 7 + j)) j) = (fun i => mv (q5 * 7 + i)) ((fun j => mv (q1 * 7 + j)) j)) → (n - c6 < fuel) → J X mX8_rank d (kc - 13) (ks - 2054) 79 [some (.ref 19), some (.int (nI q9)), some (.int (nI q1)), some (.int (nI q5)), some (.int (nI z4)), some (.int (nI (c5 - 1))), some (.int (nI c6))] [] w74 (pJ (fun v w' => ∃ (rw' : Nat → Nat), ∃ (nx' : Nat → Nat), ∃ (b' : Nat), ∃ (bt' : List Int32), ∃ (kn' : Int32), ∃ (en' : Int32), ∃ (th' : Int32), RM n mv rw' nx' b' bt' kn' en' dn rf kk th' w' ∧ FR b b' w w' ∧ (∀ i, rw' i < 7) ∧ (∀ i, nx' i < 7) ∧ KX n mv kn' bt' ∧ ((th' = nI 1 ∧ ¬ (isN (nI q1) 6 ∧ isN (nI q5) 6)) ∨ (th' = nI 2 ∧ (isN (nI q1) 6 ∧ isN (nI q5) 6) ∧ ¬ (isN (nI q9) 64)) ∨ (th' = nI 0 ∧ ∃ a1 b1 c1 : Nat, (nI q9) = nI a1 ∧ (nI q1) = nI b1 ∧ (nI q5) = nI c1 ∧ a1 < 64 ∧ b1 < 6 ∧ c1 < 6 ∧ ((v = (-1) ∧ ¬ (Gg n (gS (mW n mv) a1 6)) (mW n mv c1)) ∨ ((Gg n (gS (mW n mv) a1 6)) (mW n mv c1) ∧ v = nI (cd n (fun x => (Gg n (gS (mW n mv) a1 6)) x ∧ LSr n (fun j => mv (b1 * 7 + j)) (d8 x) (d8 (mW n mv c1)))))))))) := by
                    intro fuellp79_75
                    induction fuellp79_75 with
                    | zero => intros; omega
                    | succ fuellp79_75 ihlp79_75 =>
                      intro c6 hv79_0 hv79_1 hf76
                      refine J_iload (pc := 79) dX8_rank_79 rfl ?_
                      refine J_aload_n (pc := 81) dX8_rank_81 rfl rfl rfl ?_
                      refine J_get (pc := 82) (k := 0) dX8_rank_82 kC9 (by decide) ff_X8_7 h19_74 rfl ?_
                      refine J_icmp_geN (pc := 85) (tgt := 121) dX8_rank_85 (by decide) (by omega) (by omega) (fun ht77 => ?_) (fun hf78 => ?_)
                      · have hgg : ∀ j, j < n → rw74 ((fun j => mv (q1 * 7 + j)) j) = rwF n (c5 - 1) ((fun j => mv (q1 * 7 + j)) j) := fun j hj => hrow _ ((hy0 q1 (by omega)).1 j hj)
                        refine J_iload (pc := 121) dX8_rank_121 rfl ?_
                        refine J_aload_n (pc := 123) dX8_rank_123 rfl rfl rfl ?_
                        refine J_get (pc := 124) (k := 0) dX8_rank_124 kC9 (by decide) ff_X8_7 h19_74 rfl ?_
                        refine J_icmp_geN (pc := 127) (tgt := 160) dX8_rank_127 (by decide) (by omega) (by omega) (fun ht79 => ?_) (fun hf80 => ?_)
                        · have hst : CTt bt12 (fun k => LSr n (fun j => mv (q1 * 7 + j)) (rwF n k) (fun i => mv (q5 * 7 + i))) z4 (c5 - 1 + 1) := by first | exact CTt_y hprev hb61 (LS_y (rd := (fun j => mv (q1 * 7 + j))) (by omega) hv79_1 (by assumption) hgg) | exact CTt_n hprev (LS_n1 (rd := (fun j => mv (q1 * 7 + j))) (by omega) hv79_1 hgg) | exact CTt_n hprev (LS_n2 (rd := (fun j => mv (q1 * 7 + j))) (by omega) hv79_1 (by assumption) (by omega) hgg)
                          refine J_aload_n (pc := 160) dX8_rank_160 rfl rfl rfl ?_
                          refine J_iload (pc := 161) dX8_rank_161 rfl ?_
                          refine J_iconst (pc := 163) (v := nI 1) dX8_rank_163 (by decide) ?_
                          refine J_iaddN (pc := 164) dX8_rank_164 ?_
                          refine J_callV0 (pc := 165) (M := mX8_rank) (as := [.int (nI ((c5 - 1) + 1))]) dX8_rank_165 fw_X8_from fl_X8_137 fm_X8_from fe_X8_from h19_74 (by decide) rfl rfl rfl (c_X8_from hs (d := d - 1) (Nat.le_trans (by decide) hdm) (w := w74) (n := n) (mv := mv) (rw := rw74) (nx := nx12) (b := b12) (bt := bt12) (kn := kn12) (en := en12) (dn := dn) (rf := rf) (kk := kk) (th := nI (tW 0 0)) ⟨h19_74, h20_74, h21_74, h22_74, hbb_74, hbl_74, hb3_74⟩ hn1 hn2 gm hgrw74 hgnx12 ((c5 - 1) + 1) (by first | assumption | omega) (kc := 0) (ks := 0)) hdp (st := []) (Nat.le_of_ble_eq_true rfl) rfl (kr_P fun v81 hv81 => ?_) kx_I
                          rcases hv81 with ⟨rfl, hk81_0⟩ | ⟨q81, rfl, hk81_0, hk81_1, hk81_2, hk81_3⟩
                          · refine J_istore (pc := 168) dX8_rank_168 (by decide) rfl ?_
                            show J X mX8_rank d (kc - 13) (ks - 2054) 170 [some (.ref 19), some (.int (nI q9)), some (.int (nI q1)), some (.int (nI q5)), some (.int (nI z4)), some (.int (-1)), some (.int (nI c6))] [] w74 _
                            refine J_goto (pc := 170) (tgt := 61) dX8_rank_170 (by decide) ?_
                            exact J_sub (L' := [some (.ref 19), some (.int (nI q9)), some (.int (nI q1)), some (.int (nI q5)), some (.int (nI z4)), some (.int (nI 0 + Int32.ofInt (-1))), none]) ⟨rfl, ⟨rfl, ⟨rfl, ⟨rfl, ⟨rfl, ⟨(congrArg (fun z => some (Value.int z)) (by decide : (-1 : Int32) = nI 0 + Int32.ofInt (-1))), trivial⟩⟩⟩⟩⟩⟩ (ihlp61_65 w74 rw74 z4 0 ⟨h19_74, h20_74, h21_74, h22_74, hbb_74, hbl_74, hb3_74⟩ hF74 hgrw74 (by first | assumption | omega) (by intro h; first | (rw [Nat.add_sub_cancel]; assumption) | omega) (by first | exact KI_0 CTt_f hst (by omega) (by assumption) | exact KI_1 CTt_f hst (by omega) (by assumption)) (by exact mu_dec (by assumption) (by omega) (by omega) (by omega)))
                          · refine J_istore (pc := 168) dX8_rank_168 (by decide) rfl ?_
                            show J X mX8_rank d (kc - 13) (ks - 2054) 170 [some (.ref 19), some (.int (nI q9)), some (.int (nI q1)), some (.int (nI q5)), some (.int (nI z4)), some (.int (nI q81)), some (.int (nI c6))] [] w74 _
                            refine J_goto (pc := 170) (tgt := 61) dX8_rank_170 (by decide) ?_
                            exact J_sub (L' := [some (.ref 19), some (.int (nI q9)), some (.int (nI q1)), some (.int (nI q5)), some (.int (nI z4)), some (.int (nI (q81 + 1) + Int32.ofInt (-1))), none]) ⟨rfl, ⟨rfl, ⟨rfl, ⟨rfl, ⟨rfl, ⟨(congrArg (fun z => some (Value.int z)) (nI_n1 q81)), trivial⟩⟩⟩⟩⟩⟩ (ihlp61_65 w74 rw74 z4 (q81 + 1) ⟨h19_74, h20_74, h21_74, h22_74, hbb_74, hbl_74, hb3_74⟩ hF74 hgrw74 (by first | assumption | omega) (by intro h; first | (rw [Nat.add_sub_cancel]; assumption) | omega) (by first | exact KI_0 CTt_f hst (by omega) (by assumption) | exact KI_1 CTt_f hst (by omega) (by assumption)) (by exact mu_dec (by assumption) (by omega) (by omega) (by omega)))
                        · refine J_aload_n (pc := 130) dX8_rank_130 rfl rfl rfl ?_
                          refine J_get (pc := 131) (k := 2) dX8_rank_131 kC9 (by decide) ff_X8_17 h19_74 rfl ?_
                          refine J_aload_n (pc := 134) dX8_rank_134 rfl rfl rfl ?_
                          refine J_iload_n (pc := 135) dX8_rank_135 rfl rfl ?_
                          refine J_iload (pc := 136) dX8_rank_136 rfl ?_
                          refine J_callV0 (pc := 138) (M := mX8_rank) (as := [.int (nI q1), .int (nI c6)]) dX8_rank_138 fw_X8_at fl_X8_82 fm_X8_at fe_X8_at h19_74 (by decide) rfl rfl rfl (c_X8_at hs (d := d - 1) (Nat.le_trans (by decide) hdm) (w := w74) (n := n) (mv := mv) (rw := rw74) (nx := nx12) (b := b12) (bt := bt12) (kn := kn12) (en := en12) (dn := dn) (rf := rf) (kk := kk) (th := nI (tW 0 0)) ⟨h19_74, h20_74, h21_74, h22_74, hbb_74, hbl_74, hb3_74⟩ hn1 hn2 gm hgrw74 hgnx12 q1 c6 (by first | assumption | omega) (by first | assumption | omega) (kc := 0) (ks := 0)) hdp (st := [.ref 21]) (Nat.le_of_ble_eq_true rfl) rfl (kr_P fun v82 hv82 => ?_) kx_I
                          subst hv82
                          have hq83 := gm (q1 * 7 + c6)
                          refine J_ialdF (pc := 141) dX8_rank_141 h21_74 (by omega) (by decide) ?_
                          have hq84 := hgrw74 (mv (q1 * 7 + c6))
                          refine J_aload_n (pc := 142) dX8_rank_142 rfl rfl rfl ?_
                          refine J_iload_n (pc := 143) dX8_rank_143 rfl rfl ?_
                          refine J_aload_n (pc := 144) dX8_rank_144 rfl rfl rfl ?_
                          refine J_iload_n (pc := 145) dX8_rank_145 rfl rfl ?_
                          refine J_iload (pc := 146) dX8_rank_146 rfl ?_
                          refine J_callV0 (pc := 148) (M := mX8_rank) (as := [.int (nI q1), .int (nI c6)]) dX8_rank_148 fw_X8_at fl_X8_82 fm_X8_at fe_X8_at h19_74 (by decide) rfl rfl rfl (c_X8_at hs (d := d - 1) (Nat.le_trans (by decide) hdm) (w := w74) (n := n) (mv := mv) (rw := rw74) (nx := nx12) (b := b12) (bt := bt12) (kn := kn12) (en := en12) (dn := dn) (rf := rf) (kk := kk) (th := nI (tW 0 0)) ⟨h19_74, h20_74, h21_74, h22_74, hbb_74, hbl_74, hb3_74⟩ hn1 hn2 gm hgrw74 hgnx12 q1 c6 (by first | assumption | omega) (by first | assumption | omega) (kc := 0) (ks := 0)) hdp (st := [.int (nI q5), .ref 19, .int (nI (rw74 (mv (q1 * 7 + c6))))]) (Nat.le_of_ble_eq_true rfl) rfl (kr_P fun v85 hv85 => ?_) kx_I
                          subst hv85
                          have hq86 := gm (q1 * 7 + c6)
                          refine J_callV0 (pc := 151) (M := mX8_rank) (as := [.int (nI q5), .int (nI (mv (q1 * 7 + c6)))]) dX8_rank_151 fw_X8_at fl_X8_82 fm_X8_at fe_X8_at h19_74 (by decide) rfl rfl rfl (c_X8_at hs (d := d - 1) (Nat.le_trans (by decide) hdm) (w := w74) (n := n) (mv := mv) (rw := rw74) (nx := nx12) (b := b12) (bt := bt12) (kn := kn12) (en := en12) (dn := dn) (rf := rf) (kk := kk) (th := nI (tW 0 0)) ⟨h19_74, h20_74, h21_74, h22_74, hbb_74, hbl_74, hb3_74⟩ hn1 hn2 gm hgrw74 hgnx12 q5 (mv (q1 * 7 + c6)) (by first | assumption | omega) (by first | assumption | omega) (kc := 0) (ks := 0)) hdp (st := [.int (nI (rw74 (mv (q1 * 7 + c6))))]) (Nat.le_of_ble_eq_true rfl) rfl (kr_P fun v87 hv87 => ?_) kx_I
                          subst hv87
                          have hq88 := gm (q5 * 7 + (mv (q1 * 7 + c6)))
                          refine J_icmp_geN (pc := 154) (tgt := 160) dX8_rank_154 (by decide) (by omega) (by omega) (fun ht89 => ?_) (fun hf90 => ?_)
                          · have hst : CTt bt12 (fun k => LSr n (fun j => mv (q1 * 7 + j)) (rwF n k) (fun i => mv (q5 * 7 + i))) z4 (c5 - 1 + 1) := by first | exact CTt_y hprev hb61 (LS_y (rd := (fun j => mv (q1 * 7 + j))) (by omega) hv79_1 (by assumption) hgg) | exact CTt_n hprev (LS_n1 (rd := (fun j => mv (q1 * 7 + j))) (by omega) hv79_1 hgg) | exact CTt_n hprev (LS_n2 (rd := (fun j => mv (q1 * 7 + j))) (by omega) hv79_1 (by assumption) (by omega) hgg)
                            refine J_aload_n (pc := 160) dX8_rank_160 rfl rfl rfl ?_
                            refine J_iload (pc := 161) dX8_rank_161 rfl ?_
                            refine J_iconst (pc := 163) (v := nI 1) dX8_rank_163 (by decide) ?_
                            refine J_iaddN (pc := 164) dX8_rank_164 ?_
                            refine J_callV0 (pc := 165) (M := mX8_rank) (as := [.int (nI ((c5 - 1) + 1))]) dX8_rank_165 fw_X8_from fl_X8_137 fm_X8_from fe_X8_from h19_74 (by decide) rfl rfl rfl (c_X8_from hs (d := d - 1) (Nat.le_trans (by decide) hdm) (w := w74) (n := n) (mv := mv) (rw := rw74) (nx := nx12) (b := b12) (bt := bt12) (kn := kn12) (en := en12) (dn := dn) (rf := rf) (kk := kk) (th := nI (tW 0 0)) ⟨h19_74, h20_74, h21_74, h22_74, hbb_74, hbl_74, hb3_74⟩ hn1 hn2 gm hgrw74 hgnx12 ((c5 - 1) + 1) (by first | assumption | omega) (kc := 0) (ks := 0)) hdp (st := []) (Nat.le_of_ble_eq_true rfl) rfl (kr_P fun v91 hv91 => ?_) kx_I
                            rcases hv91 with ⟨rfl, hk91_0⟩ | ⟨q91, rfl, hk91_0, hk91_1, hk91_2, hk91_3⟩
                            · refine J_istore (pc := 168) dX8_rank_168 (by decide) rfl ?_
                              show J X mX8_rank d (kc - 13) (ks - 2054) 170 [some (.ref 19), some (.int (nI q9)), some (.int (nI q1)), some (.int (nI q5)), some (.int (nI z4)), some (.int (-1)), some (.int (nI c6))] [] w74 _
                              refine J_goto (pc := 170) (tgt := 61) dX8_rank_170 (by decide) ?_
                              exact J_sub (L' := [some (.ref 19), some (.int (nI q9)), some (.int (nI q1)), some (.int (nI q5)), some (.int (nI z4)), some (.int (nI 0 + Int32.ofInt (-1))), none]) ⟨rfl, ⟨rfl, ⟨rfl, ⟨rfl, ⟨rfl, ⟨(congrArg (fun z => some (Value.int z)) (by decide : (-1 : Int32) = nI 0 + Int32.ofInt (-1))), trivial⟩⟩⟩⟩⟩⟩ (ihlp61_65 w74 rw74 z4 0 ⟨h19_74, h20_74, h21_74, h22_74, hbb_74, hbl_74, hb3_74⟩ hF74 hgrw74 (by first | assumption | omega) (by intro h; first | (rw [Nat.add_sub_cancel]; assumption) | omega) (by first | exact KI_0 CTt_f hst (by omega) (by assumption) | exact KI_1 CTt_f hst (by omega) (by assumption)) (by exact mu_dec (by assumption) (by omega) (by omega) (by omega)))
                            · refine J_istore (pc := 168) dX8_rank_168 (by decide) rfl ?_
                              show J X mX8_rank d (kc - 13) (ks - 2054) 170 [some (.ref 19), some (.int (nI q9)), some (.int (nI q1)), some (.int (nI q5)), some (.int (nI z4)), some (.int (nI q91)), some (.int (nI c6))] [] w74 _
                              refine J_goto (pc := 170) (tgt := 61) dX8_rank_170 (by decide) ?_
                              exact J_sub (L' := [some (.ref 19), some (.int (nI q9)), some (.int (nI q1)), some (.int (nI q5)), some (.int (nI z4)), some (.int (nI (q91 + 1) + Int32.ofInt (-1))), none]) ⟨rfl, ⟨rfl, ⟨rfl, ⟨rfl, ⟨rfl, ⟨(congrArg (fun z => some (Value.int z)) (nI_n1 q91)), trivial⟩⟩⟩⟩⟩⟩ (ihlp61_65 w74 rw74 z4 (q91 + 1) ⟨h19_74, h20_74, h21_74, h22_74, hbb_74, hbl_74, hb3_74⟩ hF74 hgrw74 (by first | assumption | omega) (by intro h; first | (rw [Nat.add_sub_cancel]; assumption) | omega) (by first | exact KI_0 CTt_f hst (by omega) (by assumption) | exact KI_1 CTt_f hst (by omega) (by assumption)) (by exact mu_dec (by assumption) (by omega) (by omega) (by omega)))
                          · refine J_iincN (pc := 157) (b := 1) dX8_rank_157 rfl (by decide) (by decide) rfl ?_
                            show J X mX8_rank d (kc - 13) (ks - 2054) 160 [some (.ref 19), some (.int (nI q9)), some (.int (nI q1)), some (.int (nI q5)), some (.int (nI (z4 + 1))), some (.int (nI (c5 - 1))), some (.int (nI c6))] [] w74 _
                            have hst : CTt bt12 (fun k => LSr n (fun j => mv (q1 * 7 + j)) (rwF n k) (fun i => mv (q5 * 7 + i))) (z4 + 1) (c5 - 1 + 1) := by first | exact CTt_y hprev hb61 (LS_y (rd := (fun j => mv (q1 * 7 + j))) (by omega) hv79_1 (by assumption) hgg) | exact CTt_n hprev (LS_n1 (rd := (fun j => mv (q1 * 7 + j))) (by omega) hv79_1 hgg) | exact CTt_n hprev (LS_n2 (rd := (fun j => mv (q1 * 7 + j))) (by omega) hv79_1 (by assumption) (by omega) hgg)
                            refine J_aload_n (pc := 160) dX8_rank_160 rfl rfl rfl ?_
                            refine J_iload (pc := 161) dX8_rank_161 rfl ?_
                            refine J_iconst (pc := 163) (v := nI 1) dX8_rank_163 (by decide) ?_
                            refine J_iaddN (pc := 164) dX8_rank_164 ?_
                            refine J_callV0 (pc := 165) (M := mX8_rank) (as := [.int (nI ((c5 - 1) + 1))]) dX8_rank_165 fw_X8_from fl_X8_137 fm_X8_from fe_X8_from h19_74 (by decide) rfl rfl rfl (c_X8_from hs (d := d - 1) (Nat.le_trans (by decide) hdm) (w := w74) (n := n) (mv := mv) (rw := rw74) (nx := nx12) (b := b12) (bt := bt12) (kn := kn12) (en := en12) (dn := dn) (rf := rf) (kk := kk) (th := nI (tW 0 0)) ⟨h19_74, h20_74, h21_74, h22_74, hbb_74, hbl_74, hb3_74⟩ hn1 hn2 gm hgrw74 hgnx12 ((c5 - 1) + 1) (by first | assumption | omega) (kc := 0) (ks := 0)) hdp (st := []) (Nat.le_of_ble_eq_true rfl) rfl (kr_P fun v92 hv92 => ?_) kx_I
                            rcases hv92 with ⟨rfl, hk92_0⟩ | ⟨q92, rfl, hk92_0, hk92_1, hk92_2, hk92_3⟩
                            · refine J_istore (pc := 168) dX8_rank_168 (by decide) rfl ?_
                              show J X mX8_rank d (kc - 13) (ks - 2054) 170 [some (.ref 19), some (.int (nI q9)), some (.int (nI q1)), some (.int (nI q5)), some (.int (nI (z4 + 1))), some (.int (-1)), some (.int (nI c6))] [] w74 _
                              refine J_goto (pc := 170) (tgt := 61) dX8_rank_170 (by decide) ?_
                              exact J_sub (L' := [some (.ref 19), some (.int (nI q9)), some (.int (nI q1)), some (.int (nI q5)), some (.int (nI (z4 + 1))), some (.int (nI 0 + Int32.ofInt (-1))), none]) ⟨rfl, ⟨rfl, ⟨rfl, ⟨rfl, ⟨rfl, ⟨(congrArg (fun z => some (Value.int z)) (by decide : (-1 : Int32) = nI 0 + Int32.ofInt (-1))), trivial⟩⟩⟩⟩⟩⟩ (ihlp61_65 w74 rw74 (z4 + 1) 0 ⟨h19_74, h20_74, h21_74, h22_74, hbb_74, hbl_74, hb3_74⟩ hF74 hgrw74 (by first | assumption | omega) (by intro h; first | (rw [Nat.add_sub_cancel]; assumption) | omega) (by first | exact KI_0 CTt_f hst (by omega) (by assumption) | exact KI_1 CTt_f hst (by omega) (by assumption)) (by exact mu_dec (by assumption) (by omega) (by omega) (by omega)))
                            · refine J_istore (pc := 168) dX8_rank_168 (by decide) rfl ?_
                              show J X mX8_rank d (kc - 13) (ks - 2054) 170 [some (.ref 19), some (.int (nI q9)), some (.int (nI q1)), some (.int (nI q5)), some (.int (nI (z4 + 1))), some (.int (nI q92)), some (.int (nI c6))] [] w74 _
                              refine J_goto (pc := 170) (tgt := 61) dX8_rank_170 (by decide) ?_
                              exact J_sub (L' := [some (.ref 19), some (.int (nI q9)), some (.int (nI q1)), some (.int (nI q5)), some (.int (nI (z4 + 1))), some (.int (nI (q92 + 1) + Int32.ofInt (-1))), none]) ⟨rfl, ⟨rfl, ⟨rfl, ⟨rfl, ⟨rfl, ⟨(congrArg (fun z => some (Value.int z)) (nI_n1 q92)), trivial⟩⟩⟩⟩⟩⟩ (ihlp61_65 w74 rw74 (z4 + 1) (q92 + 1) ⟨h19_74, h20_74, h21_74, h22_74, hbb_74, hbl_74, hb3_74⟩ hF74 hgrw74 (by first | assumption | omega) (by intro h; first | (rw [Nat.add_sub_cancel]; assumption) | omega) (by first | exact KI_0 CTt_f hst (by omega) (by assumption) | exact KI_1 CTt_f hst (by omega) (by assumption)) (by exact mu_dec (by assumption) (by omega) (by omega) (by omega)))
                      · refine J_aload_n (pc := 88) dX8_rank_88 rfl rfl rfl ?_
                        refine J_get (pc := 89) (k := 2) dX8_rank_89 kC9 (by decide) ff_X8_17 h19_74 rfl ?_
                        refine J_aload_n (pc := 92) dX8_rank_92 rfl rfl rfl ?_
                        refine J_iload_n (pc := 93) dX8_rank_93 rfl rfl ?_
                        refine J_iload (pc := 94) dX8_rank_94 rfl ?_
                        refine J_callV0 (pc := 96) (M := mX8_rank) (as := [.int (nI q1), .int (nI c6)]) dX8_rank_96 fw_X8_at fl_X8_82 fm_X8_at fe_X8_at h19_74 (by decide) rfl rfl rfl (c_X8_at hs (d := d - 1) (Nat.le_trans (by decide) hdm) (w := w74) (n := n) (mv := mv) (rw := rw74) (nx := nx12) (b := b12) (bt := bt12) (kn := kn12) (en := en12) (dn := dn) (rf := rf) (kk := kk) (th := nI (tW 0 0)) ⟨h19_74, h20_74, h21_74, h22_74, hbb_74, hbl_74, hb3_74⟩ hn1 hn2 gm hgrw74 hgnx12 q1 c6 (by first | assumption | omega) (by first | assumption | omega) (kc := 0) (ks := 0)) hdp (st := [.ref 21]) (Nat.le_of_ble_eq_true rfl) rfl (kr_P fun v93 hv93 => ?_) kx_I
                        subst hv93
                        have hq94 := gm (q1 * 7 + c6)
                        refine J_ialdF (pc := 99) dX8_rank_99 h21_74 (by omega) (by decide) ?_
                        have hq95 := hgrw74 (mv (q1 * 7 + c6))
                        refine J_aload_n (pc := 100) dX8_rank_100 rfl rfl rfl ?_
                        refine J_iload_n (pc := 101) dX8_rank_101 rfl rfl ?_
                        refine J_aload_n (pc := 102) dX8_rank_102 rfl rfl rfl ?_
                        refine J_iload_n (pc := 103) dX8_rank_103 rfl rfl ?_
                        refine J_iload (pc := 104) dX8_rank_104 rfl ?_
                        refine J_callV0 (pc := 106) (M := mX8_rank) (as := [.int (nI q1), .int (nI c6)]) dX8_rank_106 fw_X8_at fl_X8_82 fm_X8_at fe_X8_at h19_74 (by decide) rfl rfl rfl (c_X8_at hs (d := d - 1) (Nat.le_trans (by decide) hdm) (w := w74) (n := n) (mv := mv) (rw := rw74) (nx := nx12) (b := b12) (bt := bt12) (kn := kn12) (en := en12) (dn := dn) (rf := rf) (kk := kk) (th := nI (tW 0 0)) ⟨h19_74, h20_74, h21_74, h22_74, hbb_74, hbl_74, hb3_74⟩ hn1 hn2 gm hgrw74 hgnx12 q1 c6 (by first | assumption | omega) (by first | assumption | omega) (kc := 0) (ks := 0)) hdp (st := [.int (nI q5), .ref 19, .int (nI (rw74 (mv (q1 * 7 + c6))))]) (Nat.le_of_ble_eq_true rfl) rfl (kr_P fun v96 hv96 => ?_) kx_I
                        subst hv96
                        have hq97 := gm (q1 * 7 + c6)
                        refine J_callV0 (pc := 109) (M := mX8_rank) (as := [.int (nI q5), .int (nI (mv (q1 * 7 + c6)))]) dX8_rank_109 fw_X8_at fl_X8_82 fm_X8_at fe_X8_at h19_74 (by decide) rfl rfl rfl (c_X8_at hs (d := d - 1) (Nat.le_trans (by decide) hdm) (w := w74) (n := n) (mv := mv) (rw := rw74) (nx := nx12) (b := b12) (bt := bt12) (kn := kn12) (en := en12) (dn := dn) (rf := rf) (kk := kk) (th := nI (tW 0 0)) ⟨h19_74, h20_74, h21_74, h22_74, hbb_74, hbl_74, hb3_74⟩ hn1 hn2 gm hgrw74 hgnx12 q5 (mv (q1 * 7 + c6)) (by first | assumption | omega) (by first | assumption | omega) (kc := 0) (ks := 0)) hdp (st := [.int (nI (rw74 (mv (q1 * 7 + c6))))]) (Nat.le_of_ble_eq_true rfl) rfl (kr_P fun v98 hv98 => ?_) kx_I
                        subst hv98
                        have hq99 := gm (q5 * 7 + (mv (q1 * 7 + c6)))
                        refine J_icmp_neN (pc := 112) (tgt := 121) dX8_rank_112 (by decide) (by omega) (by omega) (fun ht100 => ?_) (fun hf101 => ?_)
                        · have hgg : ∀ j, j < n → rw74 ((fun j => mv (q1 * 7 + j)) j) = rwF n (c5 - 1) ((fun j => mv (q1 * 7 + j)) j) := fun j hj => hrow _ ((hy0 q1 (by omega)).1 j hj)
                          refine J_iload (pc := 121) dX8_rank_121 rfl ?_
                          refine J_aload_n (pc := 123) dX8_rank_123 rfl rfl rfl ?_
                          refine J_get (pc := 124) (k := 0) dX8_rank_124 kC9 (by decide) ff_X8_7 h19_74 rfl ?_
                          refine J_icmp_geN (pc := 127) (tgt := 160) dX8_rank_127 (by decide) (by omega) (by omega) (fun ht102 => ?_) (fun hf103 => ?_)
                          · have hst : CTt bt12 (fun k => LSr n (fun j => mv (q1 * 7 + j)) (rwF n k) (fun i => mv (q5 * 7 + i))) z4 (c5 - 1 + 1) := by first | exact CTt_y hprev hb61 (LS_y (rd := (fun j => mv (q1 * 7 + j))) (by omega) hv79_1 (by assumption) hgg) | exact CTt_n hprev (LS_n1 (rd := (fun j => mv (q1 * 7 + j))) (by omega) hv79_1 hgg) | exact CTt_n hprev (LS_n2 (rd := (fun j => mv (q1 * 7 + j))) (by omega) hv79_1 (by assumption) (by omega) hgg)
                            refine J_aload_n (pc := 160) dX8_rank_160 rfl rfl rfl ?_
                            refine J_iload (pc := 161) dX8_rank_161 rfl ?_
                            refine J_iconst (pc := 163) (v := nI 1) dX8_rank_163 (by decide) ?_
                            refine J_iaddN (pc := 164) dX8_rank_164 ?_
                            refine J_callV0 (pc := 165) (M := mX8_rank) (as := [.int (nI ((c5 - 1) + 1))]) dX8_rank_165 fw_X8_from fl_X8_137 fm_X8_from fe_X8_from h19_74 (by decide) rfl rfl rfl (c_X8_from hs (d := d - 1) (Nat.le_trans (by decide) hdm) (w := w74) (n := n) (mv := mv) (rw := rw74) (nx := nx12) (b := b12) (bt := bt12) (kn := kn12) (en := en12) (dn := dn) (rf := rf) (kk := kk) (th := nI (tW 0 0)) ⟨h19_74, h20_74, h21_74, h22_74, hbb_74, hbl_74, hb3_74⟩ hn1 hn2 gm hgrw74 hgnx12 ((c5 - 1) + 1) (by first | assumption | omega) (kc := 0) (ks := 0)) hdp (st := []) (Nat.le_of_ble_eq_true rfl) rfl (kr_P fun v104 hv104 => ?_) kx_I
                            rcases hv104 with ⟨rfl, hk104_0⟩ | ⟨q104, rfl, hk104_0, hk104_1, hk104_2, hk104_3⟩
                            · refine J_istore (pc := 168) dX8_rank_168 (by decide) rfl ?_
                              show J X mX8_rank d (kc - 13) (ks - 2054) 170 [some (.ref 19), some (.int (nI q9)), some (.int (nI q1)), some (.int (nI q5)), some (.int (nI z4)), some (.int (-1)), some (.int (nI c6))] [] w74 _
                              refine J_goto (pc := 170) (tgt := 61) dX8_rank_170 (by decide) ?_
                              exact J_sub (L' := [some (.ref 19), some (.int (nI q9)), some (.int (nI q1)), some (.int (nI q5)), some (.int (nI z4)), some (.int (nI 0 + Int32.ofInt (-1))), none]) ⟨rfl, ⟨rfl, ⟨rfl, ⟨rfl, ⟨rfl, ⟨(congrArg (fun z => some (Value.int z)) (by decide : (-1 : Int32) = nI 0 + Int32.ofInt (-1))), trivial⟩⟩⟩⟩⟩⟩ (ihlp61_65 w74 rw74 z4 0 ⟨h19_74, h20_74, h21_74, h22_74, hbb_74, hbl_74, hb3_74⟩ hF74 hgrw74 (by first | assumption | omega) (by intro h; first | (rw [Nat.add_sub_cancel]; assumption) | omega) (by first | exact KI_0 CTt_f hst (by omega) (by assumption) | exact KI_1 CTt_f hst (by omega) (by assumption)) (by exact mu_dec (by assumption) (by omega) (by omega) (by omega)))
                            · refine J_istore (pc := 168) dX8_rank_168 (by decide) rfl ?_
                              show J X mX8_rank d (kc - 13) (ks - 2054) 170 [some (.ref 19), some (.int (nI q9)), some (.int (nI q1)), some (.int (nI q5)), some (.int (nI z4)), some (.int (nI q104)), some (.int (nI c6))] [] w74 _
                              refine J_goto (pc := 170) (tgt := 61) dX8_rank_170 (by decide) ?_
                              exact J_sub (L' := [some (.ref 19), some (.int (nI q9)), some (.int (nI q1)), some (.int (nI q5)), some (.int (nI z4)), some (.int (nI (q104 + 1) + Int32.ofInt (-1))), none]) ⟨rfl, ⟨rfl, ⟨rfl, ⟨rfl, ⟨rfl, ⟨(congrArg (fun z => some (Value.int z)) (nI_n1 q104)), trivial⟩⟩⟩⟩⟩⟩ (ihlp61_65 w74 rw74 z4 (q104 + 1) ⟨h19_74, h20_74, h21_74, h22_74, hbb_74, hbl_74, hb3_74⟩ hF74 hgrw74 (by first | assumption | omega) (by intro h; first | (rw [Nat.add_sub_cancel]; assumption) | omega) (by first | exact KI_0 CTt_f hst (by omega) (by assumption) | exact KI_1 CTt_f hst (by omega) (by assumption)) (by exact mu_dec (by assumption) (by omega) (by omega) (by omega)))
                          · refine J_aload_n (pc := 130) dX8_rank_130 rfl rfl rfl ?_
                            refine J_get (pc := 131) (k := 2) dX8_rank_131 kC9 (by decide) ff_X8_17 h19_74 rfl ?_
                            refine J_aload_n (pc := 134) dX8_rank_134 rfl rfl rfl ?_
                            refine J_iload_n (pc := 135) dX8_rank_135 rfl rfl ?_
                            refine J_iload (pc := 136) dX8_rank_136 rfl ?_
                            refine J_callV0 (pc := 138) (M := mX8_rank) (as := [.int (nI q1), .int (nI c6)]) dX8_rank_138 fw_X8_at fl_X8_82 fm_X8_at fe_X8_at h19_74 (by decide) rfl rfl rfl (c_X8_at hs (d := d - 1) (Nat.le_trans (by decide) hdm) (w := w74) (n := n) (mv := mv) (rw := rw74) (nx := nx12) (b := b12) (bt := bt12) (kn := kn12) (en := en12) (dn := dn) (rf := rf) (kk := kk) (th := nI (tW 0 0)) ⟨h19_74, h20_74, h21_74, h22_74, hbb_74, hbl_74, hb3_74⟩ hn1 hn2 gm hgrw74 hgnx12 q1 c6 (by first | assumption | omega) (by first | assumption | omega) (kc := 0) (ks := 0)) hdp (st := [.ref 21]) (Nat.le_of_ble_eq_true rfl) rfl (kr_P fun v105 hv105 => ?_) kx_I
                            subst hv105
                            have hq106 := gm (q1 * 7 + c6)
                            refine J_ialdF (pc := 141) dX8_rank_141 h21_74 (by omega) (by decide) ?_
                            have hq107 := hgrw74 (mv (q1 * 7 + c6))
                            refine J_aload_n (pc := 142) dX8_rank_142 rfl rfl rfl ?_
                            refine J_iload_n (pc := 143) dX8_rank_143 rfl rfl ?_
                            refine J_aload_n (pc := 144) dX8_rank_144 rfl rfl rfl ?_
                            refine J_iload_n (pc := 145) dX8_rank_145 rfl rfl ?_
                            refine J_iload (pc := 146) dX8_rank_146 rfl ?_
                            refine J_callV0 (pc := 148) (M := mX8_rank) (as := [.int (nI q1), .int (nI c6)]) dX8_rank_148 fw_X8_at fl_X8_82 fm_X8_at fe_X8_at h19_74 (by decide) rfl rfl rfl (c_X8_at hs (d := d - 1) (Nat.le_trans (by decide) hdm) (w := w74) (n := n) (mv := mv) (rw := rw74) (nx := nx12) (b := b12) (bt := bt12) (kn := kn12) (en := en12) (dn := dn) (rf := rf) (kk := kk) (th := nI (tW 0 0)) ⟨h19_74, h20_74, h21_74, h22_74, hbb_74, hbl_74, hb3_74⟩ hn1 hn2 gm hgrw74 hgnx12 q1 c6 (by first | assumption | omega) (by first | assumption | omega) (kc := 0) (ks := 0)) hdp (st := [.int (nI q5), .ref 19, .int (nI (rw74 (mv (q1 * 7 + c6))))]) (Nat.le_of_ble_eq_true rfl) rfl (kr_P fun v108 hv108 => ?_) kx_I
                            subst hv108
                            have hq109 := gm (q1 * 7 + c6)
                            refine J_callV0 (pc := 151) (M := mX8_rank) (as := [.int (nI q5), .int (nI (mv (q1 * 7 + c6)))]) dX8_rank_151 fw_X8_at fl_X8_82 fm_X8_at fe_X8_at h19_74 (by decide) rfl rfl rfl (c_X8_at hs (d := d - 1) (Nat.le_trans (by decide) hdm) (w := w74) (n := n) (mv := mv) (rw := rw74) (nx := nx12) (b := b12) (bt := bt12) (kn := kn12) (en := en12) (dn := dn) (rf := rf) (kk := kk) (th := nI (tW 0 0)) ⟨h19_74, h20_74, h21_74, h22_74, hbb_74, hbl_74, hb3_74⟩ hn1 hn2 gm hgrw74 hgnx12 q5 (mv (q1 * 7 + c6)) (by first | assumption | omega) (by first | assumption | omega) (kc := 0) (ks := 0)) hdp (st := [.int (nI (rw74 (mv (q1 * 7 + c6))))]) (Nat.le_of_ble_eq_true rfl) rfl (kr_P fun v110 hv110 => ?_) kx_I
                            subst hv110
                            have hq111 := gm (q5 * 7 + (mv (q1 * 7 + c6)))
                            refine J_icmp_geN (pc := 154) (tgt := 160) dX8_rank_154 (by decide) (by omega) (by omega) (fun ht112 => ?_) (fun hf113 => ?_)
                            · have hst : CTt bt12 (fun k => LSr n (fun j => mv (q1 * 7 + j)) (rwF n k) (fun i => mv (q5 * 7 + i))) z4 (c5 - 1 + 1) := by first | exact CTt_y hprev hb61 (LS_y (rd := (fun j => mv (q1 * 7 + j))) (by omega) hv79_1 (by assumption) hgg) | exact CTt_n hprev (LS_n1 (rd := (fun j => mv (q1 * 7 + j))) (by omega) hv79_1 hgg) | exact CTt_n hprev (LS_n2 (rd := (fun j => mv (q1 * 7 + j))) (by omega) hv79_1 (by assumption) (by omega) hgg)
                              refine J_aload_n (pc := 160) dX8_rank_160 rfl rfl rfl ?_
                              refine J_iload (pc := 161) dX8_rank_161 rfl ?_
                              refine J_iconst (pc := 163) (v := nI 1) dX8_rank_163 (by decide) ?_
                              refine J_iaddN (pc := 164) dX8_rank_164 ?_
                              refine J_callV0 (pc := 165) (M := mX8_rank) (as := [.int (nI ((c5 - 1) + 1))]) dX8_rank_165 fw_X8_from fl_X8_137 fm_X8_from fe_X8_from h19_74 (by decide) rfl rfl rfl (c_X8_from hs (d := d - 1) (Nat.le_trans (by decide) hdm) (w := w74) (n := n) (mv := mv) (rw := rw74) (nx := nx12) (b := b12) (bt := bt12) (kn := kn12) (en := en12) (dn := dn) (rf := rf) (kk := kk) (th := nI (tW 0 0)) ⟨h19_74, h20_74, h21_74, h22_74, hbb_74, hbl_74, hb3_74⟩ hn1 hn2 gm hgrw74 hgnx12 ((c5 - 1) + 1) (by first | assumption | omega) (kc := 0) (ks := 0)) hdp (st := []) (Nat.le_of_ble_eq_true rfl) rfl (kr_P fun v114 hv114 => ?_) kx_I
                              rcases hv114 with ⟨rfl, hk114_0⟩ | ⟨q114, rfl, hk114_0, hk114_1, hk114_2, hk114_3⟩
                              · refine J_istore (pc := 168) dX8_rank_168 (by decide) rfl ?_
                                show J X mX8_rank d (kc - 13) (ks - 2054) 170 [some (.ref 19), some (.int (nI q9)), some (.int (nI q1)), some (.int (nI q5)), some (.int (nI z4)), some (.int (-1)), some (.int (nI c6))] [] w74 _
                                refine J_goto (pc := 170) (tgt := 61) dX8_rank_170 (by decide) ?_
                                exact J_sub (L' := [some (.ref 19), some (.int (nI q9)), some (.int (nI q1)), some (.int (nI q5)), some (.int (nI z4)), some (.int (nI 0 + Int32.ofInt (-1))), none]) ⟨rfl, ⟨rfl, ⟨rfl, ⟨rfl, ⟨rfl, ⟨(congrArg (fun z => some (Value.int z)) (by decide : (-1 : Int32) = nI 0 + Int32.ofInt (-1))), trivial⟩⟩⟩⟩⟩⟩ (ihlp61_65 w74 rw74 z4 0 ⟨h19_74, h20_74, h21_74, h22_74, hbb_74, hbl_74, hb3_74⟩ hF74 hgrw74 (by first | assumption | omega) (by intro h; first | (rw [Nat.add_sub_cancel]; assumption) | omega) (by first | exact KI_0 CTt_f hst (by omega) (by assumption) | exact KI_1 CTt_f hst (by omega) (by assumption)) (by exact mu_dec (by assumption) (by omega) (by omega) (by omega)))
                              · refine J_istore (pc := 168) dX8_rank_168 (by decide) rfl ?_
                                show J X mX8_rank d (kc - 13) (ks - 2054) 170 [some (.ref 19), some (.int (nI q9)), some (.int (nI q1)), some (.int (nI q5)), some (.int (nI z4)), some (.int (nI q114)), some (.int (nI c6))] [] w74 _
                                refine J_goto (pc := 170) (tgt := 61) dX8_rank_170 (by decide) ?_
                                exact J_sub (L' := [some (.ref 19), some (.int (nI q9)), some (.int (nI q1)), some (.int (nI q5)), some (.int (nI z4)), some (.int (nI (q114 + 1) + Int32.ofInt (-1))), none]) ⟨rfl, ⟨rfl, ⟨rfl, ⟨rfl, ⟨rfl, ⟨(congrArg (fun z => some (Value.int z)) (nI_n1 q114)), trivial⟩⟩⟩⟩⟩⟩ (ihlp61_65 w74 rw74 z4 (q114 + 1) ⟨h19_74, h20_74, h21_74, h22_74, hbb_74, hbl_74, hb3_74⟩ hF74 hgrw74 (by first | assumption | omega) (by intro h; first | (rw [Nat.add_sub_cancel]; assumption) | omega) (by first | exact KI_0 CTt_f hst (by omega) (by assumption) | exact KI_1 CTt_f hst (by omega) (by assumption)) (by exact mu_dec (by assumption) (by omega) (by omega) (by omega)))
                            · refine J_iincN (pc := 157) (b := 1) dX8_rank_157 rfl (by decide) (by decide) rfl ?_
                              show J X mX8_rank d (kc - 13) (ks - 2054) 160 [some (.ref 19), some (.int (nI q9)), some (.int (nI q1)), some (.int (nI q5)), some (.int (nI (z4 + 1))), some (.int (nI (c5 - 1))), some (.int (nI c6))] [] w74 _
                              have hst : CTt bt12 (fun k => LSr n (fun j => mv (q1 * 7 + j)) (rwF n k) (fun i => mv (q5 * 7 + i))) (z4 + 1) (c5 - 1 + 1) := by first | exact CTt_y hprev hb61 (LS_y (rd := (fun j => mv (q1 * 7 + j))) (by omega) hv79_1 (by assumption) hgg) | exact CTt_n hprev (LS_n1 (rd := (fun j => mv (q1 * 7 + j))) (by omega) hv79_1 hgg) | exact CTt_n hprev (LS_n2 (rd := (fun j => mv (q1 * 7 + j))) (by omega) hv79_1 (by assumption) (by omega) hgg)
                              refine J_aload_n (pc := 160) dX8_rank_160 rfl rfl rfl ?_
                              refine J_iload (pc := 161) dX8_rank_161 rfl ?_
                              refine J_iconst (pc := 163) (v := nI 1) dX8_rank_163 (by decide) ?_
                              refine J_iaddN (pc := 164) dX8_rank_164 ?_
                              refine J_callV0 (pc := 165) (M := mX8_rank) (as := [.int (nI ((c5 - 1) + 1))]) dX8_rank_165 fw_X8_from fl_X8_137 fm_X8_from fe_X8_from h19_74 (by decide) rfl rfl rfl (c_X8_from hs (d := d - 1) (Nat.le_trans (by decide) hdm) (w := w74) (n := n) (mv := mv) (rw := rw74) (nx := nx12) (b := b12) (bt := bt12) (kn := kn12) (en := en12) (dn := dn) (rf := rf) (kk := kk) (th := nI (tW 0 0)) ⟨h19_74, h20_74, h21_74, h22_74, hbb_74, hbl_74, hb3_74⟩ hn1 hn2 gm hgrw74 hgnx12 ((c5 - 1) + 1) (by first | assumption | omega) (kc := 0) (ks := 0)) hdp (st := []) (Nat.le_of_ble_eq_true rfl) rfl (kr_P fun v115 hv115 => ?_) kx_I
                              rcases hv115 with ⟨rfl, hk115_0⟩ | ⟨q115, rfl, hk115_0, hk115_1, hk115_2, hk115_3⟩
                              · refine J_istore (pc := 168) dX8_rank_168 (by decide) rfl ?_
                                show J X mX8_rank d (kc - 13) (ks - 2054) 170 [some (.ref 19), some (.int (nI q9)), some (.int (nI q1)), some (.int (nI q5)), some (.int (nI (z4 + 1))), some (.int (-1)), some (.int (nI c6))] [] w74 _
                                refine J_goto (pc := 170) (tgt := 61) dX8_rank_170 (by decide) ?_
                                exact J_sub (L' := [some (.ref 19), some (.int (nI q9)), some (.int (nI q1)), some (.int (nI q5)), some (.int (nI (z4 + 1))), some (.int (nI 0 + Int32.ofInt (-1))), none]) ⟨rfl, ⟨rfl, ⟨rfl, ⟨rfl, ⟨rfl, ⟨(congrArg (fun z => some (Value.int z)) (by decide : (-1 : Int32) = nI 0 + Int32.ofInt (-1))), trivial⟩⟩⟩⟩⟩⟩ (ihlp61_65 w74 rw74 (z4 + 1) 0 ⟨h19_74, h20_74, h21_74, h22_74, hbb_74, hbl_74, hb3_74⟩ hF74 hgrw74 (by first | assumption | omega) (by intro h; first | (rw [Nat.add_sub_cancel]; assumption) | omega) (by first | exact KI_0 CTt_f hst (by omega) (by assumption) | exact KI_1 CTt_f hst (by omega) (by assumption)) (by exact mu_dec (by assumption) (by omega) (by omega) (by omega)))
                              · refine J_istore (pc := 168) dX8_rank_168 (by decide) rfl ?_
                                show J X mX8_rank d (kc - 13) (ks - 2054) 170 [some (.ref 19), some (.int (nI q9)), some (.int (nI q1)), some (.int (nI q5)), some (.int (nI (z4 + 1))), some (.int (nI q115)), some (.int (nI c6))] [] w74 _
                                refine J_goto (pc := 170) (tgt := 61) dX8_rank_170 (by decide) ?_
                                exact J_sub (L' := [some (.ref 19), some (.int (nI q9)), some (.int (nI q1)), some (.int (nI q5)), some (.int (nI (z4 + 1))), some (.int (nI (q115 + 1) + Int32.ofInt (-1))), none]) ⟨rfl, ⟨rfl, ⟨rfl, ⟨rfl, ⟨rfl, ⟨(congrArg (fun z => some (Value.int z)) (nI_n1 q115)), trivial⟩⟩⟩⟩⟩⟩ (ihlp61_65 w74 rw74 (z4 + 1) (q115 + 1) ⟨h19_74, h20_74, h21_74, h22_74, hbb_74, hbl_74, hb3_74⟩ hF74 hgrw74 (by first | assumption | omega) (by intro h; first | (rw [Nat.add_sub_cancel]; assumption) | omega) (by first | exact KI_0 CTt_f hst (by omega) (by assumption) | exact KI_1 CTt_f hst (by omega) (by assumption)) (by exact mu_dec (by assumption) (by omega) (by omega) (by omega)))
                        · refine J_iincN (pc := 115) (b := 1) dX8_rank_115 rfl (by decide) (by decide) rfl ?_
                          show J X mX8_rank d (kc - 13) (ks - 2054) 118 [some (.ref 19), some (.int (nI q9)), some (.int (nI q1)), some (.int (nI q5)), some (.int (nI z4)), some (.int (nI (c5 - 1))), some (.int (nI (c6 + 1)))] [] w74 _
                          refine J_goto (pc := 118) (tgt := 79) dX8_rank_118 (by decide) ?_
                          exact J_sub (L' := [some (.ref 19), some (.int (nI q9)), some (.int (nI q1)), some (.int (nI q5)), some (.int (nI z4)), some (.int (nI (c5 - 1))), some (.int (nI (c6 + 1)))]) ⟨rfl, ⟨rfl, ⟨rfl, ⟨rfl, ⟨rfl, ⟨rfl, ⟨rfl, trivial⟩⟩⟩⟩⟩⟩⟩ (ihlp79_75 (c6 + 1) (by first | assumption | omega) (by intro j hj; by_cases e : j = c6; (rw [e]; assumption); (exact hv79_1 j (by omega))) (by omega))
                  exact J_sub (L' := [some (.ref 19), some (.int (nI q9)), some (.int (nI q1)), some (.int (nI q5)), some (.int (nI z4)), some (.int (nI (c5 - 1))), some (.int (nI 0))]) ⟨rfl, ⟨rfl, ⟨rfl, ⟨rfl, ⟨rfl, ⟨rfl, ⟨rfl, trivial⟩⟩⟩⟩⟩⟩⟩ (lp79_75 _ 0 (by first | assumption | omega) (by intro j hj; omega) (Nat.lt_succ_self _))
            exact J_sub (L' := [some (.ref 19), some (.int (nI q9)), some (.int (nI q1)), some (.int (nI q5)), some (.int (nI 0)), some (.int (nI (q13 + 1) + Int32.ofInt (-1))), none]) ⟨rfl, ⟨rfl, ⟨rfl, ⟨rfl, ⟨rfl, ⟨(congrArg (fun z => some (Value.int z)) (nI_n1 q13)), trivial⟩⟩⟩⟩⟩⟩ (lp61_65 _ w12 rw12 0 (q13 + 1) ⟨h19_12, h20_12, h21_12, h22_12, hbb_12, hbl_12, hb3_12⟩ hF12 hgrw12 (by first | assumption | omega) (by intro h; first | (rw [Nat.add_sub_cancel]; assumption) | omega) (by first | exact KI_0 CTt_f CTt_0 (Nat.zero_le _) (by assumption) | exact KI_1 CTt_f CTt_0 (Nat.zero_le _) (by assumption)) (Nat.lt_succ_self _))
