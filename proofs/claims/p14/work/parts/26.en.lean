/-! contracts of the reference: rspec4 -/
/-- from(), in one form: the number that comes, and one more; nought if none does -/
theorem c_X8_from_atm {X : jX} (hs : X.1.stackTraces = false) {d : Nat} (hd : 1 ≤ d) {n : Nat} {mv rw nx : Nat → Nat} {b : Nat} {bt : List Int32} {kn en dn rf kk th : Int32} {w : List jC} (hR : RM n mv rw nx b bt kn en dn rf kk th w) (hn1 : 2 ≤ n) (hn2 : n ≤ 7) (gm : ∀ i, mv i < 7) (gr : ∀ i, rw i < 7) (gx : ∀ i, nx i < 7) (a : Nat) (hy0 : a ≤ fc n) {kc ks : Nat} : jMet X mX8_from d kc ks [.ref 19, .int (nI a)] w (pI (fun v => ∃ k : Nat, v = nI k + Int32.ofInt (-1) ∧ k ≤ fc n ∧ (k = 0 ∨ a < k)) (fun w' => w' = w)) := by
  refine (c_X8_from hs hd hR hn1 hn2 gm gr gx a hy0).mono (fun o w' h => ?_)
  match o, h with
  | .inl (some (.int v)), h =>
    refine ⟨?_, h.2⟩
    rcases h.1 with ⟨e, _⟩ | ⟨q, e, h1, h2, _⟩
    · exact ⟨0, e.trans (by decide), Nat.zero_le _, Or.inl rfl⟩
    · exact ⟨q + 1, e.trans (nI_n1 q), by omega, Or.inr (by omega)⟩
set_option maxRecDepth 100000 in
set_option maxHeartbeats 40000000 in
theorem c_X8_share {X : jX} (hs : X.1.stackTraces = false) {d : Nat} (hd : 4 ≤ d) {n : Nat} {mv rw nx : Nat → Nat} {b : Nat} {bt : List Int32} {kn en dn rf kk th : Int32} {w : List jC} (hR : RM n mv rw nx b bt kn en dn rf kk th w) (hn1 : 2 ≤ n) (hn2 : n ≤ 7) (gm : ∀ i, mv i < 7) (gr : ∀ i, rw i < 7) (gx : ∀ i, nx i < 7) (s : Int32) (a : Int32) (hy0 : PM n mv) (hy1 : KX n mv kn bt) {kc ks : Nat} (hkc : 13 ≤ kc) (hks : 2054 ≤ ks) : jMet X mX8_share d kc ks [.ref 19, .int s, .int a] w (pI (fun _ => True) (fun w' => ∃ (rw' : Nat → Nat), ∃ (nx' : Nat → Nat), ∃ (b' : Nat), ∃ (bt' : List Int32), ∃ (kn' : Int32), ∃ (en' : Int32), ∃ (th' : Int32), RM n mv rw' nx' b' bt' kn' en' dn rf kk th' w' ∧ FR b b' w w' ∧ (∀ i, rw' i < 7) ∧ (∀ i, nx' i < 7) ∧ KX n mv kn' bt')) := by
  refine jMet_of hs (by decide +kernel) (Nat.le_of_ble_eq_true rfl) (L := [some (.ref 19), some (.int s), some (.int a), none, none, none]) rfl ?_
  have hdm : 3 ≤ d - 1 := by omega
  have hdp : d - 1 + 1 ≤ d := by omega
  have hfc := fc_7 hn2
  have hfp := fc_pos n
  obtain ⟨h19, h20, h21, h22, hbb, hbl, hb3⟩ := hR
  have hF : FR b b w w := FR.rf
  refine J_aload_n (pc := 0) dX8_share_0 rfl rfl rfl ?_
  refine J_iload_n (pc := 1) dX8_share_1 rfl rfl ?_
  refine J_callS0 (pc := 2) (M := mX8_share) (as := [.int a]) dX8_share_2 fw_X8_isCell fl_X8_108 fs_X8_isCell rfl (c_X8_isCell hs (d := d - 1) (Nat.le_trans (by decide) hdm) (w := w) a (kc := 0) (ks := 0)) hdp (st := [.ref 19]) (Nat.le_of_ble_eq_true rfl) rfl (kr_P fun v1 hv1 => ?_) kx_I
  rcases hv1 with ⟨rfl, hk1_0⟩ | ⟨q1, rfl, hk1_0, rfl⟩
  · refine J_if_neN (pc := 5) (tgt := 12) dX8_share_5 (by decide) (by decide) (fun h => absurd h (by decide)) (fun _ => ?_)
    refine J_iconst (pc := 8) (v := nI 1) dX8_share_8 (by decide) ?_
    refine J_goto (pc := 9) (tgt := 13) dX8_share_9 (by decide) ?_
    refine J_iload_n (pc := 13) dX8_share_13 rfl rfl ?_
    refine J_callS0 (pc := 14) (M := mX8_share) (as := [.int s]) dX8_share_14 fw_X8_isSet fl_X8_134 fs_X8_isSet rfl (c_X8_isSet hs (d := d - 1) (Nat.le_trans (by decide) hdm) (w := w) s (kc := 0) (ks := 0)) hdp (st := [.int (nI 1), .ref 19]) (Nat.le_of_ble_eq_true rfl) rfl (kr_P fun v2 hv2 => ?_) kx_I
    rcases hv2 with ⟨rfl, hk2_0⟩ | ⟨q2, rfl, hk2_0, rfl⟩
    · refine J_if_neN (pc := 17) (tgt := 24) dX8_share_17 (by decide) (by decide) (fun h => absurd h (by decide)) (fun _ => ?_)
      refine J_iconst (pc := 20) (v := nI 1) dX8_share_20 (by decide) ?_
      refine J_goto (pc := 21) (tgt := 25) dX8_share_21 (by decide) ?_
      refine J_callV0 (pc := 25) (M := mX8_share) (as := [.int (nI 1), .int (nI 1)]) dX8_share_25 fw_X8_isThrown fl_X8_35 fm_X8_isThrown fe_X8_isThrown h19 (by decide) rfl rfl rfl (c_X8_isThrown hs (d := d - 1) (Nat.le_trans (by decide) hdm) (w := w) (n := n) (mv := mv) (rw := rw) (nx := nx) (b := b) (bt := bt) (kn := kn) (en := en) (dn := dn) (rf := rf) (kk := kk) (th := th) ⟨h19, h20, h21, h22, hbb, hbl, hb3⟩ hn1 hn2 gm gr gx 1 1 (by first | assumption | omega) (by first | assumption | omega) (kc := 0) (ks := 0)) hdp (st := []) (Nat.le_of_ble_eq_true rfl) rfl (kr_I fun v3 w3 hv3 hw3 => ?_) kx_I
      obtain ⟨hR3, hFc3⟩ := hw3
      obtain ⟨h19_3, h20_3, h21_3, h22_3, hbb_3, hbl_3, hb3_3⟩ := hR3
      have hF3 := hF.tr hFc3
      subst hv3
      show J X mX8_share d kc ks 28 [some (.ref 19), some (.int s), some (.int a), none, none, none] [.int (nI 1)] w3 _
      refine J_if_eqN (pc := 28) (tgt := 33) dX8_share_28 (by decide) (by decide) (fun h => absurd h (by decide)) (fun _ => ?_)
      refine J_iconst (pc := 31) (v := nI 0) dX8_share_31 (by decide) ?_
      exact J_iret (pc := 32) dX8_share_32 rfl ⟨trivial, ⟨rw, nx, b, bt, kn, en, nI (tW 1 1), ⟨h19_3, h20_3, h21_3, h22_3, hbb_3, hbl_3, hb3_3⟩, hF3, gr, gx, (by first | assumption | exact KX_i (by assumption) (by omega) (by first | rfl | assumption))⟩⟩
    · refine J_if_neN (pc := 17) (tgt := 24) dX8_share_17 (by decide) (by decide) (fun _ => ?_) (fun h => absurd h (by decide))
      refine J_iconst (pc := 24) (v := nI 0) dX8_share_24 (by decide) ?_
      refine J_callV0 (pc := 25) (M := mX8_share) (as := [.int (nI 1), .int (nI 0)]) dX8_share_25 fw_X8_isThrown fl_X8_35 fm_X8_isThrown fe_X8_isThrown h19 (by decide) rfl rfl rfl (c_X8_isThrown hs (d := d - 1) (Nat.le_trans (by decide) hdm) (w := w) (n := n) (mv := mv) (rw := rw) (nx := nx) (b := b) (bt := bt) (kn := kn) (en := en) (dn := dn) (rf := rf) (kk := kk) (th := th) ⟨h19, h20, h21, h22, hbb, hbl, hb3⟩ hn1 hn2 gm gr gx 1 0 (by first | assumption | omega) (by first | assumption | omega) (kc := 0) (ks := 0)) hdp (st := []) (Nat.le_of_ble_eq_true rfl) rfl (kr_I fun v4 w4 hv4 hw4 => ?_) kx_I
      obtain ⟨hR4, hFc4⟩ := hw4
      obtain ⟨h19_4, h20_4, h21_4, h22_4, hbb_4, hbl_4, hb3_4⟩ := hR4
      have hF4 := hF.tr hFc4
      subst hv4
      show J X mX8_share d kc ks 28 [some (.ref 19), some (.int (nI q2)), some (.int a), none, none, none] [.int (nI 1)] w4 _
      refine J_if_eqN (pc := 28) (tgt := 33) dX8_share_28 (by decide) (by decide) (fun h => absurd h (by decide)) (fun _ => ?_)
      refine J_iconst (pc := 31) (v := nI 0) dX8_share_31 (by decide) ?_
      exact J_iret (pc := 32) dX8_share_32 rfl ⟨trivial, ⟨rw, nx, b, bt, kn, en, nI (tW 1 0), ⟨h19_4, h20_4, h21_4, h22_4, hbb_4, hbl_4, hb3_4⟩, hF4, gr, gx, (by first | assumption | exact KX_i (by assumption) (by omega) (by first | rfl | assumption))⟩⟩
  · refine J_if_neN (pc := 5) (tgt := 12) dX8_share_5 (by decide) (by decide) (fun _ => ?_) (fun h => absurd h (by decide))
    refine J_iconst (pc := 12) (v := nI 0) dX8_share_12 (by decide) ?_
    refine J_iload_n (pc := 13) dX8_share_13 rfl rfl ?_
    refine J_callS0 (pc := 14) (M := mX8_share) (as := [.int s]) dX8_share_14 fw_X8_isSet fl_X8_134 fs_X8_isSet rfl (c_X8_isSet hs (d := d - 1) (Nat.le_trans (by decide) hdm) (w := w) s (kc := 0) (ks := 0)) hdp (st := [.int (nI 0), .ref 19]) (Nat.le_of_ble_eq_true rfl) rfl (kr_P fun v5 hv5 => ?_) kx_I
    rcases hv5 with ⟨rfl, hk5_0⟩ | ⟨q5, rfl, hk5_0, rfl⟩
    · refine J_if_neN (pc := 17) (tgt := 24) dX8_share_17 (by decide) (by decide) (fun h => absurd h (by decide)) (fun _ => ?_)
      refine J_iconst (pc := 20) (v := nI 1) dX8_share_20 (by decide) ?_
      refine J_goto (pc := 21) (tgt := 25) dX8_share_21 (by decide) ?_
      refine J_callV0 (pc := 25) (M := mX8_share) (as := [.int (nI 0), .int (nI 1)]) dX8_share_25 fw_X8_isThrown fl_X8_35 fm_X8_isThrown fe_X8_isThrown h19 (by decide) rfl rfl rfl (c_X8_isThrown hs (d := d - 1) (Nat.le_trans (by decide) hdm) (w := w) (n := n) (mv := mv) (rw := rw) (nx := nx) (b := b) (bt := bt) (kn := kn) (en := en) (dn := dn) (rf := rf) (kk := kk) (th := th) ⟨h19, h20, h21, h22, hbb, hbl, hb3⟩ hn1 hn2 gm gr gx 0 1 (by first | assumption | omega) (by first | assumption | omega) (kc := 0) (ks := 0)) hdp (st := []) (Nat.le_of_ble_eq_true rfl) rfl (kr_I fun v6 w6 hv6 hw6 => ?_) kx_I
      obtain ⟨hR6, hFc6⟩ := hw6
      obtain ⟨h19_6, h20_6, h21_6, h22_6, hbb_6, hbl_6, hb3_6⟩ := hR6
      have hF6 := hF.tr hFc6
      subst hv6
      show J X mX8_share d kc ks 28 [some (.ref 19), some (.int s), some (.int (nI q1)), none, none, none] [.int (nI 1)] w6 _
      refine J_if_eqN (pc := 28) (tgt := 33) dX8_share_28 (by decide) (by decide) (fun h => absurd h (by decide)) (fun _ => ?_)
      refine J_iconst (pc := 31) (v := nI 0) dX8_share_31 (by decide) ?_
      exact J_iret (pc := 32) dX8_share_32 rfl ⟨trivial, ⟨rw, nx, b, bt, kn, en, nI (tW 0 1), ⟨h19_6, h20_6, h21_6, h22_6, hbb_6, hbl_6, hb3_6⟩, hF6, gr, gx, (by first | assumption | exact KX_i (by assumption) (by omega) (by first | rfl | assumption))⟩⟩
    · refine J_if_neN (pc := 17) (tgt := 24) dX8_share_17 (by decide) (by decide) (fun _ => ?_) (fun h => absurd h (by decide))
      refine J_iconst (pc := 24) (v := nI 0) dX8_share_24 (by decide) ?_
      refine J_callV0 (pc := 25) (M := mX8_share) (as := [.int (nI 0), .int (nI 0)]) dX8_share_25 fw_X8_isThrown fl_X8_35 fm_X8_isThrown fe_X8_isThrown h19 (by decide) rfl rfl rfl (c_X8_isThrown hs (d := d - 1) (Nat.le_trans (by decide) hdm) (w := w) (n := n) (mv := mv) (rw := rw) (nx := nx) (b := b) (bt := bt) (kn := kn) (en := en) (dn := dn) (rf := rf) (kk := kk) (th := th) ⟨h19, h20, h21, h22, hbb, hbl, hb3⟩ hn1 hn2 gm gr gx 0 0 (by first | assumption | omega) (by first | assumption | omega) (kc := 0) (ks := 0)) hdp (st := []) (Nat.le_of_ble_eq_true rfl) rfl (kr_I fun v7 w7 hv7 hw7 => ?_) kx_I
      obtain ⟨hR7, hFc7⟩ := hw7
      obtain ⟨h19_7, h20_7, h21_7, h22_7, hbb_7, hbl_7, hb3_7⟩ := hR7
      have hF7 := hF.tr hFc7
      subst hv7
      show J X mX8_share d kc ks 28 [some (.ref 19), some (.int (nI q5)), some (.int (nI q1)), none, none, none] [.int (nI 0)] w7 _
      refine J_if_eqN (pc := 28) (tgt := 33) dX8_share_28 (by decide) (by decide) (fun _ => ?_) (fun h => absurd h (by decide))
      refine J_aload_n (pc := 33) dX8_share_33 rfl rfl rfl ?_
      refine J_iload_n (pc := 34) dX8_share_34 rfl rfl ?_
      refine J_callV (pc := 35) (M := mX8_share) (as := [.int (nI q5)]) dX8_share_35 fw_X8_group fl_X8_99 fm_X8_group fe_X8_group h19_7 (by decide) rfl rfl rfl (c_X8_group_ate hs (d := d - 1) (Nat.le_trans (by decide) hdm) (w := w7) (n := n) (mv := mv) (rw := rw) (nx := nx) (b := b) (bt := bt) (kn := kn) (en := en) (dn := dn) (rf := rf) (kk := kk) (th := nI (tW 0 0)) ⟨h19_7, h20_7, h21_7, h22_7, hbb_7, hbl_7, hb3_7⟩ hn1 hn2 gm gr gx q5 (by first | assumption | omega) (by first | assumption | omega) (by first | assumption | omega) (kc := 13) (ks := 2054) (Nat.le_refl _) (Nat.le_refl _)) hdp (by omega) (by omega) (st := []) (Nat.le_of_ble_eq_true rfl) rfl (kr_V fun w8 hw8 => ?_) kx_V
      obtain ⟨rw8, nx8, b8, bt8, kn8, en8, hR8, hFc8, hgrw8, hgnx8, hp8_0, hp8_1⟩ := hw8
      obtain ⟨h19_8, h20_8, h21_8, h22_8, hbb_8, hbl_8, hb3_8⟩ := hR8
      have qd8 := hFc8.2.1
      have hF8 := hF7.tr hFc8
      refine J_aload_n (pc := 38) dX8_share_38 rfl rfl rfl ?_
      refine J_aload_n (pc := 39) dX8_share_39 rfl rfl rfl ?_
      refine J_get (pc := 40) (k := 1) dX8_share_40 kC9 (by decide) ff_X8_13 h19_8 rfl ?_
      refine J_iload_n (pc := 43) dX8_share_43 rfl rfl ?_
      refine J_bipush (pc := 44) (v := nI 7) dX8_share_44 (by decide) ?_
      refine J_imulN (pc := 46) dX8_share_46 ?_
      refine J_callV0 (pc := 47) (M := mX8_share) (as := [.ref 20, .int (nI (q1 * 7))]) dX8_share_47 fw_X8_numberOf fl_X8_45 fm_X8_numberOf fe_X8_numberOf h19_8 (by decide) rfl rfl rfl (c_X8_numberOf_at20 hs (d := d - 1) (Nat.le_trans (by decide) hdm) (w := w8) (n := n) (mv := mv) (rw := rw8) (nx := nx8) (b := b8) (bt := bt8) (kn := kn8) (en := en8) (dn := dn) (rf := rf) (kk := kk) (th := nI (tW 0 0)) ⟨h19_8, h20_8, h21_8, h22_8, hbb_8, hbl_8, hb3_8⟩ hn1 hn2 gm hgrw8 hgnx8 (q1 * 7) (by first | assumption | omega) (kc := 0) (ks := 0)) hdp (st := []) (Nat.le_of_ble_eq_true rfl) rfl (kr_P fun v9 hv9 => ?_) kx_I
      subst hv9
      have hq10 := nuF_b mv (q1 * 7) n
      refine J_istore_n (pc := 50) dX8_share_50 rfl (by decide) rfl ?_
      show J X mX8_share d (kc - 13) (ks - 2054) 51 [some (.ref 19), some (.int (nI q5)), some (.int (nI q1)), some (.int (nI (nuF mv (q1 * 7) n n))), none, none] [] w8 _
      refine J_aload_n (pc := 51) dX8_share_51 rfl rfl rfl ?_
      refine J_iconst (pc := 52) (v := nI 0) dX8_share_52 (by decide) ?_
      refine J_callV0 (pc := 53) (M := mX8_share) (as := [.int (nI 0)]) dX8_share_53 fw_X8_from fl_X8_137 fm_X8_from fe_X8_from h19_8 (by decide) rfl rfl rfl (c_X8_from_atm hs (d := d - 1) (Nat.le_trans (by decide) hdm) (w := w8) (n := n) (mv := mv) (rw := rw8) (nx := nx8) (b := b8) (bt := bt8) (kn := kn8) (en := en8) (dn := dn) (rf := rf) (kk := kk) (th := nI (tW 0 0)) ⟨h19_8, h20_8, h21_8, h22_8, hbb_8, hbl_8, hb3_8⟩ hn1 hn2 gm hgrw8 hgnx8 0 (by first | assumption | omega) (kc := 0) (ks := 0)) hdp (st := []) (Nat.le_of_ble_eq_true rfl) rfl (kr_P fun v11 hv11 => ?_) kx_I
      obtain ⟨k11, rfl, hk11⟩ := hv11
      refine J_istore (pc := 56) dX8_share_56 (by decide) rfl ?_
      show J X mX8_share d (kc - 13) (ks - 2054) 58 [some (.ref 19), some (.int (nI q5)), some (.int (nI q1)), some (.int (nI (nuF mv (q1 * 7) n n))), some (.int (nI k11 + Int32.ofInt (-1))), none] [] w8 _
      have lp58_12 : ∀ (fuel : Nat) (w13 : List jC) (rw_58 : Nat → Nat) (nx_58 : Nat → Nat) (z3 : Int32) (c4 : Nat), (RM n mv rw_58 nx_58 b8 bt8 kn8 en8 dn rf kk (nI (tW 0 0)) w13) → (FR b b8 w w13) → (∀ i, rw_58 i < 7) → (∀ i, nx_58 i < 7) → (c4 ≤ fc n) → (mu (fc n) c4 < fuel) → J X mX8_share d (kc - 13) (ks - 2054) 58 [some (.ref 19), some (.int (nI q5)), some (.int (nI q1)), some (.int z3), some (.int (nI c4 + Int32.ofInt (-1))), none] [] w13 (pI (fun _ => True) (fun w' => ∃ (rw' : Nat → Nat), ∃ (nx' : Nat → Nat), ∃ (b' : Nat), ∃ (bt' : List Int32), ∃ (kn' : Int32), ∃ (en' : Int32), ∃ (th' : Int32), RM n mv rw' nx' b' bt' kn' en' dn rf kk th' w' ∧ FR b b' w w' ∧ (∀ i, rw' i < 7) ∧ (∀ i, nx' i < 7) ∧ KX n mv kn' bt')) := by
        intro fuellp58_12
        induction fuellp58_12 with
        | zero => intros; omega
        | succ fuellp58_12 ihlp58_12 =>
          intro w13 rw_58 nx_58 z3 c4 hR14 hF15 gr16 gx17 hv58_0 hf18
          obtain ⟨h19_19, h20_19, h21_19, h22_19, hb_19, hbl_19, hb3_19⟩ := hR14
          refine J_iload (pc := 58) dX8_share_58 rfl ?_
          refine J_if_ltM (pc := 60) (tgt := 137) dX8_share_60 (by decide) (by omega) (fun ht20 => ?_) (fun hf21 => ?_)
          · refine J_iload_n (pc := 137) dX8_share_137 rfl rfl ?_
            exact J_iret (pc := 138) dX8_share_138 rfl ⟨trivial, ⟨rw_58, nx_58, b8, bt8, kn8, en8, nI (tW 0 0), ⟨h19_19, h20_19, h21_19, h22_19, hb_19, hbl_19, hb3_19⟩, hF15, gr16, gx17, (by first | assumption | exact KX_i (by assumption) (by omega) (by first | rfl | assumption))⟩⟩
          · rw [nI_m1 hf21]
            refine J_aload_n (pc := 63) dX8_share_63 rfl rfl rfl ?_
            refine J_iload (pc := 64) dX8_share_64 rfl ?_
            refine J_aload_n (pc := 66) dX8_share_66 rfl rfl rfl ?_
            refine J_get (pc := 67) (k := 2) dX8_share_67 kC9 (by decide) ff_X8_17 h19_19 rfl ?_
            refine J_callV0 (pc := 70) (M := mX8_share) (as := [.int (nI (c4 - 1)), .ref 21]) dX8_share_70 fw_X8_rowOf fl_X8_78 fm_X8_rowOf fe_X8_rowOf h19_19 (by decide) rfl rfl rfl (c_X8_rowOf hs (d := d - 1) (Nat.le_trans (by decide) hdm) (w := w13) (n := n) (mv := mv) (rw := rw_58) (nx := nx_58) (b := b8) (bt := bt8) (kn := kn8) (en := en8) (dn := dn) (rf := rf) (kk := kk) (th := nI (tW 0 0)) ⟨h19_19, h20_19, h21_19, h22_19, hb_19, hbl_19, hb3_19⟩ hn1 hn2 gm gr16 gx17 (c4 - 1) (by first | assumption | omega) (kc := 0) (ks := 0)) hdp (st := []) (Nat.le_of_ble_eq_true rfl) rfl (kr_V fun w22 hw22 => ?_) kx_V
            obtain ⟨rw22, hR22, hFc22, hgrw22, hp22_0⟩ := hw22
            obtain ⟨h19_22, h20_22, h21_22, h22_22, hbb_22, hbl_22, hb3_22⟩ := hR22
            have hF22 := hF15.tr hFc22
            refine J_iconst (pc := 73) (v := nI 0) dX8_share_73 (by decide) ?_
            refine J_istore (pc := 74) dX8_share_74 (by decide) rfl ?_
            show J X mX8_share d (kc - 13) (ks - 2054) 76 [some (.ref 19), some (.int (nI q5)), some (.int (nI q1)), some (.int z3), some (.int (nI (c4 - 1))), some (.int (nI 0))] [] w22 _
            have lp76_23 : ∀ (fuel : Nat) (w24 : List jC) (nx_76 : Nat → Nat) (c5 : Nat), (RM n mv rw22 nx_76 b8 bt8 kn8 en8 dn rf kk (nI (tW 0 0)) w24) → (FR b b8 w w24) → (∀ i, nx_76 i < 7) → (c5 ≤ n) → (n - c5 < fuel) → J X mX8_share d (kc - 13) (ks - 2054) 76 [some (.ref 19), some (.int (nI q5)), some (.int (nI q1)), some (.int z3), some (.int (nI (c4 - 1))), some (.int (nI c5))] [] w24 (pI (fun _ => True) (fun w' => ∃ (rw' : Nat → Nat), ∃ (nx' : Nat → Nat), ∃ (b' : Nat), ∃ (bt' : List Int32), ∃ (kn' : Int32), ∃ (en' : Int32), ∃ (th' : Int32), RM n mv rw' nx' b' bt' kn' en' dn rf kk th' w' ∧ FR b b' w w' ∧ (∀ i, rw' i < 7) ∧ (∀ i, nx' i < 7) ∧ KX n mv kn' bt')) := by
              intro fuellp76_23
              induction fuellp76_23 with
              | zero => intros; omega
              | succ fuellp76_23 ihlp76_23 =>
                intro w24 nx_76 c5 hR25 hF26 gx27 hv76_0 hf28
                obtain ⟨h19_29, h20_29, h21_29, h22_29, hb_29, hbl_29, hb3_29⟩ := hR25
                refine J_iload (pc := 76) dX8_share_76 rfl ?_
                refine J_aload_n (pc := 78) dX8_share_78 rfl rfl rfl ?_
                refine J_get (pc := 79) (k := 0) dX8_share_79 kC9 (by decide) ff_X8_7 h19_29 rfl ?_
                refine J_icmp_geN (pc := 82) (tgt := 110) dX8_share_82 (by decide) (by omega) (by omega) (fun ht30 => ?_) (fun hf31 => ?_)
                · refine J_iload_n (pc := 110) dX8_share_110 rfl rfl ?_
                  refine J_aload_n (pc := 111) dX8_share_111 rfl rfl rfl ?_
                  refine J_aload_n (pc := 112) dX8_share_112 rfl rfl rfl ?_
                  refine J_get (pc := 113) (k := 3) dX8_share_113 kC9 (by decide) ff_X8_20 h19_29 rfl ?_
                  refine J_iconst (pc := 116) (v := nI 0) dX8_share_116 (by decide) ?_
                  refine J_callV0 (pc := 117) (M := mX8_share) (as := [.ref 22, .int (nI 0)]) dX8_share_117 fw_X8_numberOf fl_X8_45 fm_X8_numberOf fe_X8_numberOf h19_29 (by decide) rfl rfl rfl (c_X8_numberOf_at22 hs (d := d - 1) (Nat.le_trans (by decide) hdm) (w := w24) (n := n) (mv := mv) (rw := rw22) (nx := nx_76) (b := b8) (bt := bt8) (kn := kn8) (en := en8) (dn := dn) (rf := rf) (kk := kk) (th := nI (tW 0 0)) ⟨h19_29, h20_29, h21_29, h22_29, hb_29, hbl_29, hb3_29⟩ hn1 hn2 gm hgrw22 gx27 0 (by first | assumption | omega) (kc := 0) (ks := 0)) hdp (st := [.int z3]) (Nat.le_of_ble_eq_true rfl) rfl (kr_P fun v32 hv32 => ?_) kx_I
                  subst hv32
                  have hq33 := nuF_b nx_76 0 n
                  refine J_callS0 (pc := 120) (M := mX8_share) (as := [.int z3, .int (nI (nuF nx_76 0 n n))]) dX8_share_120 fw_J9_min_7cf53 fl_X8_212 fs_J9_min_7cf53 rfl (c_J9_min_7cf53 hs (d := d - 1) (Nat.le_trans (by decide) hdm) (w := w24) z3 (nI (nuF nx_76 0 n n)) (kc := 0) (ks := 0)) hdp (st := []) (Nat.le_of_ble_eq_true rfl) rfl (kr_P fun v34 hv34 => ?_) kx_I
                  refine J_istore_n (pc := 123) dX8_share_123 rfl (by decide) rfl ?_
                  show J X mX8_share d (kc - 13) (ks - 2054) 124 [some (.ref 19), some (.int (nI q5)), some (.int (nI q1)), some (.int v34), some (.int (nI (c4 - 1))), some (.int (nI c5))] [] w24 _
                  refine J_aload_n (pc := 124) dX8_share_124 rfl rfl rfl ?_
                  refine J_iload (pc := 125) dX8_share_125 rfl ?_
                  refine J_iconst (pc := 127) (v := nI 1) dX8_share_127 (by decide) ?_
                  refine J_iaddN (pc := 128) dX8_share_128 ?_
                  refine J_callV0 (pc := 129) (M := mX8_share) (as := [.int (nI ((c4 - 1) + 1))]) dX8_share_129 fw_X8_from fl_X8_137 fm_X8_from fe_X8_from h19_29 (by decide) rfl rfl rfl (c_X8_from_atm hs (d := d - 1) (Nat.le_trans (by decide) hdm) (w := w24) (n := n) (mv := mv) (rw := rw22) (nx := nx_76) (b := b8) (bt := bt8) (kn := kn8) (en := en8) (dn := dn) (rf := rf) (kk := kk) (th := nI (tW 0 0)) ⟨h19_29, h20_29, h21_29, h22_29, hb_29, hbl_29, hb3_29⟩ hn1 hn2 gm hgrw22 gx27 ((c4 - 1) + 1) (by first | assumption | omega) (kc := 0) (ks := 0)) hdp (st := []) (Nat.le_of_ble_eq_true rfl) rfl (kr_P fun v35 hv35 => ?_) kx_I
                  obtain ⟨k35, rfl, hk35⟩ := hv35
                  refine J_istore (pc := 132) dX8_share_132 (by decide) rfl ?_
                  show J X mX8_share d (kc - 13) (ks - 2054) 134 [some (.ref 19), some (.int (nI q5)), some (.int (nI q1)), some (.int v34), some (.int (nI k35 + Int32.ofInt (-1))), some (.int (nI c5))] [] w24 _
                  refine J_goto (pc := 134) (tgt := 58) dX8_share_134 (by decide) ?_
                  exact J_sub (L' := [some (.ref 19), some (.int (nI q5)), some (.int (nI q1)), some (.int v34), some (.int (nI k35 + Int32.ofInt (-1))), none]) ⟨rfl, ⟨rfl, ⟨rfl, ⟨rfl, ⟨rfl, trivial⟩⟩⟩⟩⟩ (ihlp58_12 w24 rw22 nx_76 v34 k35 ⟨h19_29, h20_29, h21_29, h22_29, hb_29, hbl_29, hb3_29⟩ hF26 hgrw22 gx27 (by first | assumption | omega) (by exact mu_dec (by assumption) (by omega) (by omega) (by omega)))
                · refine J_aload_n (pc := 85) dX8_share_85 rfl rfl rfl ?_
                  refine J_get (pc := 86) (k := 3) dX8_share_86 kC9 (by decide) ff_X8_20 h19_29 rfl ?_
                  refine J_iload (pc := 89) dX8_share_89 rfl ?_
                  refine J_aload_n (pc := 91) dX8_share_91 rfl rfl rfl ?_
                  refine J_iload_n (pc := 92) dX8_share_92 rfl rfl ?_
                  refine J_aload_n (pc := 93) dX8_share_93 rfl rfl rfl ?_
                  refine J_get (pc := 94) (k := 2) dX8_share_94 kC9 (by decide) ff_X8_17 h19_29 rfl ?_
                  refine J_iload (pc := 97) dX8_share_97 rfl ?_
                  refine J_ialdF (pc := 99) dX8_share_99 h21_29 (by omega) (by decide) ?_
                  have hq36 := hgrw22 c5
                  refine J_callV0 (pc := 100) (M := mX8_share) (as := [.int (nI q1), .int (nI (rw22 c5))]) dX8_share_100 fw_X8_at fl_X8_82 fm_X8_at fe_X8_at h19_29 (by decide) rfl rfl rfl (c_X8_at hs (d := d - 1) (Nat.le_trans (by decide) hdm) (w := w24) (n := n) (mv := mv) (rw := rw22) (nx := nx_76) (b := b8) (bt := bt8) (kn := kn8) (en := en8) (dn := dn) (rf := rf) (kk := kk) (th := nI (tW 0 0)) ⟨h19_29, h20_29, h21_29, h22_29, hb_29, hbl_29, hb3_29⟩ hn1 hn2 gm hgrw22 gx27 q1 (rw22 c5) (by first | assumption | omega) (by first | assumption | omega) (kc := 0) (ks := 0)) hdp (st := [.int (nI c5), .ref 22]) (Nat.le_of_ble_eq_true rfl) rfl (kr_P fun v37 hv37 => ?_) kx_I
                  subst hv37
                  have hq38 := gm (q1 * 7 + (rw22 c5))
                  refine J_iastF (pc := 103) dX8_share_103 h22_29 (by omega) (by decide) (fun w39 hln39 hc39 hne39 => ?_)
                  have hg39 : ∀ i, (up nx_76 c5 (mv (q1 * 7 + (rw22 c5)))) i < 7 := up_b gx27 (by omega)
                  have h19_39 := (hne39 19 (by decide)).trans h19_29
                  have h20_39 := (hne39 20 (by decide)).trans h20_29
                  have h21_39 := (hne39 21 (by decide)).trans h21_29
                  have hb_39 := (hne39 _ (Nat.ne_of_gt (Nat.lt_of_lt_of_le (by decide) hb3_29))).trans hb_29
                  have hF39 := hF26.st hln39 hne39 (Or.inl (by decide))
                  refine J_iincN (pc := 104) (b := 1) dX8_share_104 rfl (by decide) (by decide) rfl ?_
                  show J X mX8_share d (kc - 13) (ks - 2054) 107 [some (.ref 19), some (.int (nI q5)), some (.int (nI q1)), some (.int z3), some (.int (nI (c4 - 1))), some (.int (nI (c5 + 1)))] [] w39 _
                  refine J_goto (pc := 107) (tgt := 76) dX8_share_107 (by decide) ?_
                  exact J_sub (L' := [some (.ref 19), some (.int (nI q5)), some (.int (nI q1)), some (.int z3), some (.int (nI (c4 - 1))), some (.int (nI (c5 + 1)))]) ⟨rfl, ⟨rfl, ⟨rfl, ⟨rfl, ⟨rfl, ⟨rfl, trivial⟩⟩⟩⟩⟩⟩ (ihlp76_23 w39 (up nx_76 c5 (mv (q1 * 7 + (rw22 c5)))) (c5 + 1) ⟨h19_39, h20_39, h21_39, hc39, hb_39, hbl_29, hb3_29⟩ hF39 hg39 (by first | assumption | omega) (by omega))
            exact J_sub (L' := [some (.ref 19), some (.int (nI q5)), some (.int (nI q1)), some (.int z3), some (.int (nI (c4 - 1))), some (.int (nI 0))]) ⟨rfl, ⟨rfl, ⟨rfl, ⟨rfl, ⟨rfl, ⟨rfl, trivial⟩⟩⟩⟩⟩⟩ (lp76_23 _ w22 nx_58 0 ⟨h19_22, h20_22, h21_22, h22_22, hbb_22, hbl_22, hb3_22⟩ hF22 gx17 (by first | assumption | omega) (Nat.lt_succ_self _))
      exact J_sub (L' := [some (.ref 19), some (.int (nI q5)), some (.int (nI q1)), some (.int (nI (nuF mv (q1 * 7) n n))), some (.int (nI k11 + Int32.ofInt (-1))), none]) ⟨rfl, ⟨rfl, ⟨rfl, ⟨rfl, ⟨rfl, trivial⟩⟩⟩⟩⟩ (lp58_12 _ w8 rw8 nx8 (nI (nuF mv (q1 * 7) n n)) k11 ⟨h19_8, h20_8, h21_8, h22_8, hbb_8, hbl_8, hb3_8⟩ hF8 hgrw8 hgnx8 (by first | assumption | omega) (Nat.lt_succ_self _))
set_option maxRecDepth 100000 in
set_option maxHeartbeats 40000000 in
theorem c_X8_join {X : jX} (hs : X.1.stackTraces = false) {d : Nat} (hd : 0 ≤ d) {n : Nat} {mv rw nx : Nat → Nat} {b : Nat} {bt : List Int32} {kn en dn rf kk th : Int32} {w : List jC} (hR : RM n mv rw nx b bt kn en dn rf kk th w) (hn1 : 2 ≤ n) (hn2 : n ≤ 7) (gm : ∀ i, mv i < 7) (gr : ∀ i, rw i < 7) (gx : ∀ i, nx i < 7) (a : Nat) (c : Nat) (hy0 : a < 7) (hy1 : c < 7) {kc ks : Nat} : jMet X mX8_join d kc ks [.ref 19, .int (nI a), .int (nI c)] w (pV (fun w' => ∃ (rw' : Nat → Nat), RM n mv rw' nx b bt kn en dn rf kk th w' ∧ FR b b w w' ∧ (∀ i, rw' i < 7) ∧ ∀ p, p < n → rw' p = jn rw a c p)) := by
  refine jMet_of hs (by decide +kernel) (Nat.le_of_ble_eq_true rfl) (L := [some (.ref 19), some (.int (nI a)), some (.int (nI c)), none, none, none]) rfl ?_
  have hfc := fc_7 hn2
  have hfp := fc_pos n
  obtain ⟨h19, h20, h21, h22, hbb, hbl, hb3⟩ := hR
  have hF : FR b b w w := FR.rf
  refine J_aload_n (pc := 0) dX8_join_0 rfl rfl rfl ?_
  refine J_get (pc := 1) (k := 2) dX8_join_1 kC9 (by decide) ff_X8_17 h19 rfl ?_
  refine J_iload_n (pc := 4) dX8_join_4 rfl rfl ?_
  refine J_ialdF (pc := 5) dX8_join_5 h21 (by omega) (by decide) ?_
  have hq1 := gr a
  refine J_istore_n (pc := 6) dX8_join_6 rfl (by decide) rfl ?_
  show J X mX8_join d kc ks 7 [some (.ref 19), some (.int (nI a)), some (.int (nI c)), some (.int (nI (rw a))), none, none] [] w _
  refine J_aload_n (pc := 7) dX8_join_7 rfl rfl rfl ?_
  refine J_get (pc := 8) (k := 2) dX8_join_8 kC9 (by decide) ff_X8_17 h19 rfl ?_
  refine J_iload_n (pc := 11) dX8_join_11 rfl rfl ?_
  refine J_ialdF (pc := 12) dX8_join_12 h21 (by omega) (by decide) ?_
  have hq2 := gr c
  refine J_istore (pc := 13) dX8_join_13 (by decide) rfl ?_
  show J X mX8_join d kc ks 15 [some (.ref 19), some (.int (nI a)), some (.int (nI c)), some (.int (nI (rw a))), some (.int (nI (rw c))), none] [] w _
  refine J_iconst (pc := 15) (v := nI 0) dX8_join_15 (by decide) ?_
  refine J_istore (pc := 16) dX8_join_16 (by decide) rfl ?_
  show J X mX8_join d kc ks 18 [some (.ref 19), some (.int (nI a)), some (.int (nI c)), some (.int (nI (rw a))), some (.int (nI (rw c))), some (.int (nI 0))] [] w _
  have lp18_3 : ∀ (fuel : Nat) (w4 : List jC) (rw_18 : Nat → Nat) (c5 : Nat), (RM n mv rw_18 nx b bt kn en dn rf kk th w4) → (FR b b w w4) → (∀ i, rw_18 i < 7) → (∀ p, p < c5 → rw_18 p = jn rw a c p) → (∀ p, c5 ≤ p → rw_18 p = rw p) → (c5 ≤ n) → (n - c5 < fuel) → J X mX8_join d kc ks 18 [some (.ref 19), some (.int (nI a)), some (.int (nI c)), some (.int (nI (rw a))), some (.int (nI (rw c))), some (.int (nI c5))] [] w4 (pV (fun w' => ∃ (rw' : Nat → Nat), RM n mv rw' nx b bt kn en dn rf kk th w' ∧ FR b b w w' ∧ (∀ i, rw' i < 7) ∧ ∀ p, p < n → rw' p = jn rw a c p)) := by
    intro fuellp18_3
    induction fuellp18_3 with
    | zero => intros; omega
    | succ fuellp18_3 ihlp18_3 =>
      intro w4 rw_18 c5 hR5 hF6 gr7 hv18_0 hv18_1 hv18_2 hf8
      obtain ⟨h19_9, h20_9, h21_9, h22_9, hb_9, hbl_9, hb3_9⟩ := hR5
      refine J_iload (pc := 18) dX8_join_18 rfl ?_
      refine J_aload_n (pc := 20) dX8_join_20 rfl rfl rfl ?_
      refine J_get (pc := 21) (k := 0) dX8_join_21 kC9 (by decide) ff_X8_7 h19_9 rfl ?_
      refine J_icmp_geN (pc := 24) (tgt := 53) dX8_join_24 (by decide) (by omega) (by omega) (fun ht10 => ?_) (fun hf11 => ?_)
      · exact J_vret (pc := 53) dX8_join_53 rfl (⟨rw_18, ⟨h19_9, h20_9, h21_9, h22_9, hb_9, hbl_9, hb3_9⟩, hF6, gr7, (by intro p hp; exact hv18_0 p (by omega))⟩)
      · refine J_aload_n (pc := 27) dX8_join_27 rfl rfl rfl ?_
        refine J_get (pc := 28) (k := 2) dX8_join_28 kC9 (by decide) ff_X8_17 h19_9 rfl ?_
        refine J_iload (pc := 31) dX8_join_31 rfl ?_
        refine J_ialdF (pc := 33) dX8_join_33 h21_9 (by omega) (by decide) ?_
        have hq12 := gr7 c5
        refine J_iload (pc := 34) dX8_join_34 rfl ?_
        refine J_icmp_neN (pc := 36) (tgt := 47) dX8_join_36 (by decide) (by omega) (by omega) (fun ht13 => ?_) (fun hf14 => ?_)
        · refine J_iincN (pc := 47) (b := 1) dX8_join_47 rfl (by decide) (by decide) rfl ?_
          show J X mX8_join d kc ks 50 [some (.ref 19), some (.int (nI a)), some (.int (nI c)), some (.int (nI (rw a))), some (.int (nI (rw c))), some (.int (nI (c5 + 1)))] [] w4 _
          refine J_goto (pc := 50) (tgt := 18) dX8_join_50 (by decide) ?_
          exact J_sub (L' := [some (.ref 19), some (.int (nI a)), some (.int (nI c)), some (.int (nI (rw a))), some (.int (nI (rw c))), some (.int (nI (c5 + 1)))]) ⟨rfl, ⟨rfl, ⟨rfl, ⟨rfl, ⟨rfl, ⟨rfl, trivial⟩⟩⟩⟩⟩⟩ (ihlp18_3 w4 rw_18 (c5 + 1) ⟨h19_9, h20_9, h21_9, h22_9, hb_9, hbl_9, hb3_9⟩ hF6 gr7 (by intro p hp; by_cases q : p = c5; (subst q; have := hv18_1 p (by omega); first | (rw [up_s]; unfold jn; rw [if_pos (by omega)]) | (unfold jn; rw [if_neg (by omega)]; exact this)); (first | (rw [up_n q]; exact hv18_0 p (by omega)) | exact hv18_0 p (by omega))) (by intro p hp; first | (rw [up_n (by omega)]; exact hv18_1 p (by omega)) | exact hv18_1 p (by omega)) (by first | assumption | omega) (by omega))
        · refine J_aload_n (pc := 39) dX8_join_39 rfl rfl rfl ?_
          refine J_get (pc := 40) (k := 2) dX8_join_40 kC9 (by decide) ff_X8_17 h19_9 rfl ?_
          refine J_iload (pc := 43) dX8_join_43 rfl ?_
          refine J_iload_n (pc := 45) dX8_join_45 rfl rfl ?_
          refine J_iastF (pc := 46) dX8_join_46 h21_9 (by omega) (by decide) (fun w15 hln15 hc15 hne15 => ?_)
          have hg15 : ∀ i, (up rw_18 c5 (rw a)) i < 7 := up_b gr7 (by omega)
          have h19_15 := (hne15 19 (by decide)).trans h19_9
          have h20_15 := (hne15 20 (by decide)).trans h20_9
          have h22_15 := (hne15 22 (by decide)).trans h22_9
          have hb_15 := (hne15 _ (Nat.ne_of_gt (Nat.lt_of_lt_of_le (by decide) hb3_9))).trans hb_9
          have hF15 := hF6.st hln15 hne15 (Or.inl (by decide))
          refine J_iincN (pc := 47) (b := 1) dX8_join_47 rfl (by decide) (by decide) rfl ?_
          show J X mX8_join d kc ks 50 [some (.ref 19), some (.int (nI a)), some (.int (nI c)), some (.int (nI (rw a))), some (.int (nI (rw c))), some (.int (nI (c5 + 1)))] [] w15 _
          refine J_goto (pc := 50) (tgt := 18) dX8_join_50 (by decide) ?_
          exact J_sub (L' := [some (.ref 19), some (.int (nI a)), some (.int (nI c)), some (.int (nI (rw a))), some (.int (nI (rw c))), some (.int (nI (c5 + 1)))]) ⟨rfl, ⟨rfl, ⟨rfl, ⟨rfl, ⟨rfl, ⟨rfl, trivial⟩⟩⟩⟩⟩⟩ (ihlp18_3 w15 (up rw_18 c5 (rw a)) (c5 + 1) ⟨h19_15, h20_15, hc15, h22_15, hb_15, hbl_9, hb3_9⟩ hF15 hg15 (by intro p hp; by_cases q : p = c5; (subst q; have := hv18_1 p (by omega); first | (rw [up_s]; unfold jn; rw [if_pos (by omega)]) | (unfold jn; rw [if_neg (by omega)]; exact this)); (first | (rw [up_n q]; exact hv18_0 p (by omega)) | exact hv18_0 p (by omega))) (by intro p hp; first | (rw [up_n (by omega)]; exact hv18_1 p (by omega)) | exact hv18_1 p (by omega)) (by first | assumption | omega) (by omega))
  exact J_sub (L' := [some (.ref 19), some (.int (nI a)), some (.int (nI c)), some (.int (nI (rw a))), some (.int (nI (rw c))), some (.int (nI 0))]) ⟨rfl, ⟨rfl, ⟨rfl, ⟨rfl, ⟨rfl, ⟨rfl, trivial⟩⟩⟩⟩⟩⟩ (lp18_3 _ w rw 0 ⟨h19, h20, h21, h22, hbb, hbl, hb3⟩ hF gr (by intro p hp; omega) (by intro p hp; rfl) (by first | assumption | omega) (Nat.lt_succ_self _))
