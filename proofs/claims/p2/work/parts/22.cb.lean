/-! contracts of the reference: rspec3 -/
set_option maxRecDepth 100000 in
set_option maxHeartbeats 4000000 in
theorem c_X8_exchange {X : jX} (hs : X.1.stackTraces = false) {d : Nat} (hd : 3 ≤ d) {n : Nat} {mv rw nx : Nat → Nat} {b : Nat} {bt : List Int32} {kn en dn rf kk th : Int32} {w : List jC} (hR : RM n mv rw nx b bt kn en dn rf kk th w) (hn1 : 2 ≤ n) (hn2 : n ≤ 7) (gm : ∀ i, mv i < 7) (gr : ∀ i, rw i < 7) (gx : ∀ i, nx i < 7) (a : Int32) (c : Int32) (e : Int32) (hy0 : PM n mv) (hy1 : KB n kn bt) {kc ks : Nat} : jMet X mX8_exchange d kc ks [.ref 19, .int a, .int c, .int e] w (pI (fun _ => True) (fun w' => ∃ (mv' : Nat → Nat), ∃ (rw' : Nat → Nat), ∃ (nx' : Nat → Nat), ∃ (kn' : Int32), ∃ (dn' : Int32), ∃ (th' : Int32), RM n mv' rw' nx' b bt kn' en dn' rf kk th' w' ∧ FR b b w w' ∧ (∀ i, mv' i < 7) ∧ (∀ i, rw' i < 7) ∧ (∀ i, nx' i < 7) ∧ PM n mv' ∧ KB n kn' bt)) := by
  refine jMet_of hs (by decide +kernel) (Nat.le_of_ble_eq_true rfl) (L := [some (.ref 19), some (.int a), some (.int c), some (.int e)]) rfl ?_
  have hfc := fc_7 hn2
  have hfp := fc_pos n
  obtain ⟨h19, h20, h21, h22, hbb, hbl, hb3⟩ := hR
  have hF : FR b b w w := FR.rf
  refine J_aload_n (pc := 0) dX8_exchange_0 rfl rfl rfl ?_
  refine J_iload_n (pc := 1) dX8_exchange_1 rfl rfl ?_
  refine J_callS0 (pc := 2) (M := mX8_exchange) (as := [.int a]) dX8_exchange_2 fw_X8_isCell fl_X8_108 fs_X8_isCell rfl (c_X8_isCell hs (d := d - 1) (by omega) (w := w) a (kc := 0) (ks := 0)) (by omega) (st := [.ref 19]) (Nat.le_of_ble_eq_true rfl) rfl (kr_P fun v1 hv1 => ?_) kx_I
  rcases hv1 with ⟨rfl, hk1_0⟩ | ⟨q1, rfl, hk1_0, rfl⟩
  · refine J_if_eqN (pc := 5) (tgt := 24) dX8_exchange_5 (by decide) (by decide) (fun _ => ?_) (fun h => absurd h (by decide))
    refine J_iconst (pc := 24) (v := nI 1) dX8_exchange_24 (by decide) ?_
    refine J_goto (pc := 25) (tgt := 29) dX8_exchange_25 (by decide) ?_
    refine J_callV0 (pc := 29) (M := mX8_exchange) (as := [.int (nI 1)]) dX8_exchange_29 fw_X8_isThrown_ fl_X8_105 fm_X8_isThrown_ fe_X8_isThrown_ h19 (by decide) rfl rfl rfl (c_X8_isThrown_ hs (d := d - 1) (by omega) (w := w) (n := n) (mv := mv) (rw := rw) (nx := nx) (b := b) (bt := bt) (kn := kn) (en := en) (dn := dn) (rf := rf) (kk := kk) (th := th) ⟨h19, h20, h21, h22, hbb, hbl, hb3⟩ hn1 hn2 gm gr gx 1 (by first | assumption | omega) (kc := 0) (ks := 0)) (by omega) (st := []) (Nat.le_of_ble_eq_true rfl) rfl (kr_I fun v2 w2 hv2 hw2 => ?_) kx_I
    obtain ⟨hR2, hFc2⟩ := hw2
    obtain ⟨h19_2, h20_2, h21_2, h22_2, hbb_2, hbl_2, hb3_2⟩ := hR2
    have hF2 := hF.tr hFc2
    subst hv2
    show J X mX8_exchange d kc ks 32 [some (.ref 19), some (.int a), some (.int c), some (.int e)] [.int (nI 1)] w2 _
    refine J_if_eqN (pc := 32) (tgt := 37) dX8_exchange_32 (by decide) (by decide) (fun h => absurd h (by decide)) (fun _ => ?_)
    refine J_iconst (pc := 35) (v := nI 0) dX8_exchange_35 (by decide) ?_
    exact J_iret (pc := 36) dX8_exchange_36 rfl ⟨trivial, ⟨mv, rw, nx, kn, dn, nI (tW 1 0), ⟨h19_2, h20_2, h21_2, h22_2, hbb_2, hbl_2, hb3_2⟩, hF2, gm, gr, gx, (by first | assumption | exact PM_st hn2 (by assumption) (by assumption) (by assumption)), (by first | assumption | exact Or.inl rfl)⟩⟩
  · refine J_if_eqN (pc := 5) (tgt := 24) dX8_exchange_5 (by decide) (by decide) (fun h => absurd h (by decide)) (fun _ => ?_)
    refine J_aload_n (pc := 8) dX8_exchange_8 rfl rfl rfl ?_
    refine J_iload_n (pc := 9) dX8_exchange_9 rfl rfl ?_
    refine J_callV0 (pc := 10) (M := mX8_exchange) (as := [.int c]) dX8_exchange_10 fw_X8_isPoint fl_X8_118 fm_X8_isPoint fe_X8_isPoint h19 (by decide) rfl rfl rfl (c_X8_isPoint hs (d := d - 1) (by omega) (w := w) (n := n) (mv := mv) (rw := rw) (nx := nx) (b := b) (bt := bt) (kn := kn) (en := en) (dn := dn) (rf := rf) (kk := kk) (th := th) ⟨h19, h20, h21, h22, hbb, hbl, hb3⟩ hn1 hn2 gm gr gx c (kc := 0) (ks := 0)) (by omega) (st := [.ref 19]) (Nat.le_of_ble_eq_true rfl) rfl (kr_P fun v3 hv3 => ?_) kx_I
    rcases hv3 with ⟨rfl, hk3_0⟩ | ⟨q3, rfl, hk3_0, rfl⟩
    · refine J_if_eqN (pc := 13) (tgt := 24) dX8_exchange_13 (by decide) (by decide) (fun _ => ?_) (fun h => absurd h (by decide))
      refine J_iconst (pc := 24) (v := nI 1) dX8_exchange_24 (by decide) ?_
      refine J_goto (pc := 25) (tgt := 29) dX8_exchange_25 (by decide) ?_
      refine J_callV0 (pc := 29) (M := mX8_exchange) (as := [.int (nI 1)]) dX8_exchange_29 fw_X8_isThrown_ fl_X8_105 fm_X8_isThrown_ fe_X8_isThrown_ h19 (by decide) rfl rfl rfl (c_X8_isThrown_ hs (d := d - 1) (by omega) (w := w) (n := n) (mv := mv) (rw := rw) (nx := nx) (b := b) (bt := bt) (kn := kn) (en := en) (dn := dn) (rf := rf) (kk := kk) (th := th) ⟨h19, h20, h21, h22, hbb, hbl, hb3⟩ hn1 hn2 gm gr gx 1 (by first | assumption | omega) (kc := 0) (ks := 0)) (by omega) (st := []) (Nat.le_of_ble_eq_true rfl) rfl (kr_I fun v4 w4 hv4 hw4 => ?_) kx_I
      obtain ⟨hR4, hFc4⟩ := hw4
      obtain ⟨h19_4, h20_4, h21_4, h22_4, hbb_4, hbl_4, hb3_4⟩ := hR4
      have hF4 := hF.tr hFc4
      subst hv4
      show J X mX8_exchange d kc ks 32 [some (.ref 19), some (.int (nI q1)), some (.int c), some (.int e)] [.int (nI 1)] w4 _
      refine J_if_eqN (pc := 32) (tgt := 37) dX8_exchange_32 (by decide) (by decide) (fun h => absurd h (by decide)) (fun _ => ?_)
      refine J_iconst (pc := 35) (v := nI 0) dX8_exchange_35 (by decide) ?_
      exact J_iret (pc := 36) dX8_exchange_36 rfl ⟨trivial, ⟨mv, rw, nx, kn, dn, nI (tW 1 0), ⟨h19_4, h20_4, h21_4, h22_4, hbb_4, hbl_4, hb3_4⟩, hF4, gm, gr, gx, (by first | assumption | exact PM_st hn2 (by assumption) (by assumption) (by assumption)), (by first | assumption | exact Or.inl rfl)⟩⟩
    · refine J_if_eqN (pc := 13) (tgt := 24) dX8_exchange_13 (by decide) (by decide) (fun h => absurd h (by decide)) (fun _ => ?_)
      refine J_aload_n (pc := 16) dX8_exchange_16 rfl rfl rfl ?_
      refine J_iload_n (pc := 17) dX8_exchange_17 rfl rfl ?_
      refine J_callV0 (pc := 18) (M := mX8_exchange) (as := [.int e]) dX8_exchange_18 fw_X8_isPoint fl_X8_118 fm_X8_isPoint fe_X8_isPoint h19 (by decide) rfl rfl rfl (c_X8_isPoint hs (d := d - 1) (by omega) (w := w) (n := n) (mv := mv) (rw := rw) (nx := nx) (b := b) (bt := bt) (kn := kn) (en := en) (dn := dn) (rf := rf) (kk := kk) (th := th) ⟨h19, h20, h21, h22, hbb, hbl, hb3⟩ hn1 hn2 gm gr gx e (kc := 0) (ks := 0)) (by omega) (st := [.ref 19]) (Nat.le_of_ble_eq_true rfl) rfl (kr_P fun v5 hv5 => ?_) kx_I
      rcases hv5 with ⟨rfl, hk5_0⟩ | ⟨q5, rfl, hk5_0, rfl⟩
      · refine J_if_neN (pc := 21) (tgt := 28) dX8_exchange_21 (by decide) (by decide) (fun h => absurd h (by decide)) (fun _ => ?_)
        refine J_iconst (pc := 24) (v := nI 1) dX8_exchange_24 (by decide) ?_
        refine J_goto (pc := 25) (tgt := 29) dX8_exchange_25 (by decide) ?_
        refine J_callV0 (pc := 29) (M := mX8_exchange) (as := [.int (nI 1)]) dX8_exchange_29 fw_X8_isThrown_ fl_X8_105 fm_X8_isThrown_ fe_X8_isThrown_ h19 (by decide) rfl rfl rfl (c_X8_isThrown_ hs (d := d - 1) (by omega) (w := w) (n := n) (mv := mv) (rw := rw) (nx := nx) (b := b) (bt := bt) (kn := kn) (en := en) (dn := dn) (rf := rf) (kk := kk) (th := th) ⟨h19, h20, h21, h22, hbb, hbl, hb3⟩ hn1 hn2 gm gr gx 1 (by first | assumption | omega) (kc := 0) (ks := 0)) (by omega) (st := []) (Nat.le_of_ble_eq_true rfl) rfl (kr_I fun v6 w6 hv6 hw6 => ?_) kx_I
        obtain ⟨hR6, hFc6⟩ := hw6
        obtain ⟨h19_6, h20_6, h21_6, h22_6, hbb_6, hbl_6, hb3_6⟩ := hR6
        have hF6 := hF.tr hFc6
        subst hv6
        show J X mX8_exchange d kc ks 32 [some (.ref 19), some (.int (nI q1)), some (.int (nI q3)), some (.int e)] [.int (nI 1)] w6 _
        refine J_if_eqN (pc := 32) (tgt := 37) dX8_exchange_32 (by decide) (by decide) (fun h => absurd h (by decide)) (fun _ => ?_)
        refine J_iconst (pc := 35) (v := nI 0) dX8_exchange_35 (by decide) ?_
        exact J_iret (pc := 36) dX8_exchange_36 rfl ⟨trivial, ⟨mv, rw, nx, kn, dn, nI (tW 1 0), ⟨h19_6, h20_6, h21_6, h22_6, hbb_6, hbl_6, hb3_6⟩, hF6, gm, gr, gx, (by first | assumption | exact PM_st hn2 (by assumption) (by assumption) (by assumption)), (by first | assumption | exact Or.inl rfl)⟩⟩
      · refine J_if_neN (pc := 21) (tgt := 28) dX8_exchange_21 (by decide) (by decide) (fun _ => ?_) (fun h => absurd h (by decide))
        refine J_iconst (pc := 28) (v := nI 0) dX8_exchange_28 (by decide) ?_
        refine J_callV0 (pc := 29) (M := mX8_exchange) (as := [.int (nI 0)]) dX8_exchange_29 fw_X8_isThrown_ fl_X8_105 fm_X8_isThrown_ fe_X8_isThrown_ h19 (by decide) rfl rfl rfl (c_X8_isThrown_ hs (d := d - 1) (by omega) (w := w) (n := n) (mv := mv) (rw := rw) (nx := nx) (b := b) (bt := bt) (kn := kn) (en := en) (dn := dn) (rf := rf) (kk := kk) (th := th) ⟨h19, h20, h21, h22, hbb, hbl, hb3⟩ hn1 hn2 gm gr gx 0 (by first | assumption | omega) (kc := 0) (ks := 0)) (by omega) (st := []) (Nat.le_of_ble_eq_true rfl) rfl (kr_I fun v7 w7 hv7 hw7 => ?_) kx_I
        obtain ⟨hR7, hFc7⟩ := hw7
        obtain ⟨h19_7, h20_7, h21_7, h22_7, hbb_7, hbl_7, hb3_7⟩ := hR7
        have hF7 := hF.tr hFc7
        subst hv7
        show J X mX8_exchange d kc ks 32 [some (.ref 19), some (.int (nI q1)), some (.int (nI q3)), some (.int (nI q5))] [.int (nI 0)] w7 _
        refine J_if_eqN (pc := 32) (tgt := 37) dX8_exchange_32 (by decide) (by decide) (fun _ => ?_) (fun h => absurd h (by decide))
        refine J_aload_n (pc := 37) dX8_exchange_37 rfl rfl rfl ?_
        refine J_callV0 (pc := 38) (M := mX8_exchange) (as := []) dX8_exchange_38 fw_X8_stillRow fl_X8_121 fm_X8_stillRow fe_X8_stillRow h19_7 (by decide) rfl rfl rfl (c_X8_stillRow hs (d := d - 1) (by omega) (w := w7) (n := n) (mv := mv) (rw := rw) (nx := nx) (b := b) (bt := bt) (kn := kn) (en := en) (dn := dn) (rf := rf) (kk := kk) (th := nI (tW 0 0)) ⟨h19_7, h20_7, h21_7, h22_7, hbb_7, hbl_7, hb3_7⟩ hn1 hn2 gm gr gx  (kc := 0) (ks := 0)) (by omega) (st := []) (Nat.le_of_ble_eq_true rfl) rfl (kr_V fun w8 hw8 => ?_) kx_V
        obtain ⟨rw8, hR8, hFc8, hgrw8, hp8_0⟩ := hw8
        obtain ⟨h19_8, h20_8, h21_8, h22_8, hbb_8, hbl_8, hb3_8⟩ := hR8
        have hF8 := hF7.tr hFc8
        have hst := hp8_0
        refine J_aload_n (pc := 41) dX8_exchange_41 rfl rfl rfl ?_
        refine J_get (pc := 42) (k := 2) dX8_exchange_42 kC9 (by decide) ff_X8_17 h19_8 rfl ?_
        refine J_iload_n (pc := 45) dX8_exchange_45 rfl rfl ?_
        refine J_iload_n (pc := 46) dX8_exchange_46 rfl rfl ?_
        refine J_iastF (pc := 47) dX8_exchange_47 h21_8 (by omega) (by decide) (fun w9 hln9 hc9 hne9 => ?_)
        have hg9 : ∀ i, (up rw8 q3 q5) i < 7 := up_b hgrw8 (by omega)
        have h19_9 := (hne9 19 (by omega)).trans h19_8
        have h20_9 := (hne9 20 (by omega)).trans h20_8
        have h22_9 := (hne9 22 (by omega)).trans h22_8
        have hb_9 := (hne9 _ (by omega)).trans hbb_8
        have hF9 := hF8.st hln9 hne9 (Or.inl (by decide))
        refine J_aload_n (pc := 48) dX8_exchange_48 rfl rfl rfl ?_
        refine J_get (pc := 49) (k := 2) dX8_exchange_49 kC9 (by decide) ff_X8_17 h19_9 rfl ?_
        refine J_iload_n (pc := 52) dX8_exchange_52 rfl rfl ?_
        refine J_iload_n (pc := 53) dX8_exchange_53 rfl rfl ?_
        refine J_iastF (pc := 54) dX8_exchange_54 hc9 (by omega) (by decide) (fun w10 hln10 hc10 hne10 => ?_)
        have hg10 : ∀ i, (up (up rw8 q3 q5) q5 q3) i < 7 := up_b hg9 (by omega)
        have h19_10 := (hne10 19 (by omega)).trans h19_9
        have h20_10 := (hne10 20 (by omega)).trans h20_9
        have h22_10 := (hne10 22 (by omega)).trans h22_9
        have hb_10 := (hne10 _ (by omega)).trans hb_9
        have hF10 := hF9.st hln10 hne10 (Or.inl (by decide))
        have hPr := Pn_swap (u := q3) (v := q5) hst (by omega) (by omega)
        refine J_aload_n (pc := 55) dX8_exchange_55 rfl rfl rfl ?_
        refine J_iload_n (pc := 56) dX8_exchange_56 rfl rfl ?_
        refine J_aload_n (pc := 57) dX8_exchange_57 rfl rfl rfl ?_
        refine J_get (pc := 58) (k := 2) dX8_exchange_58 kC9 (by decide) ff_X8_17 h19_10 rfl ?_
        refine J_callV0 (pc := 61) (M := mX8_exchange) (as := [.int (nI q1), .ref 21]) dX8_exchange_61 fw_X8_behind fl_X8_124 fm_X8_behind fe_X8_behind h19_10 (by decide) rfl rfl rfl (c_X8_behind hs (d := d - 1) (by omega) (w := w10) (n := n) (mv := mv) (rw := up (up rw8 q3 q5) q5 q3) (nx := nx) (b := b) (bt := bt) (kn := kn) (en := en) (dn := dn) (rf := rf) (kk := kk) (th := nI (tW 0 0)) ⟨h19_10, h20_10, hc10, h22_10, hb_10, hbl_8, hb3_8⟩ hn1 hn2 gm hg10 gx q1 (by first | assumption | omega) (by first | assumption | omega) (by first | assumption | omega) (kc := 0) (ks := 0)) (by omega) (st := []) (Nat.le_of_ble_eq_true rfl) rfl (kr_I fun v11 w11 hv11 hw11 => ?_) kx_I
        obtain ⟨mv11, nx11, hR11, hFc11, hgmv11, hgnx11, hp11_0⟩ := hw11
        obtain ⟨h19_11, h20_11, h21_11, h22_11, hbb_11, hbl_11, hb3_11⟩ := hR11
        have hF11 := hF10.tr hFc11
        exact J_iret (pc := 64) dX8_exchange_64 rfl ⟨trivial, ⟨mv11, up (up rw8 q3 q5) q5 q3, nx11, (-1), (dn + nI 1), nI (tW 0 0), ⟨h19_11, h20_11, h21_11, h22_11, hbb_11, hbl_11, hb3_11⟩, hF11, hgmv11, hg10, hgnx11, (by first | assumption | exact PM_st hn2 (by assumption) (by assumption) (by assumption)), (by first | assumption | exact Or.inl rfl)⟩⟩
