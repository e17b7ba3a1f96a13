/-! contracts of the reference: rspec3 -/
set_option maxRecDepth 100000 in
set_option maxHeartbeats 4000000 in
theorem c_X8_order {X : jX} (hs : X.1.stackTraces = false) {d : Nat} (hd : 10 ≤ d) {n : Nat} {mv rw nx : Nat → Nat} {b : Nat} {bt : List Int32} {kn en dn rf kk th : Int32} {w : List jC} (hR : RM n mv rw nx b bt kn en dn rf kk th w) (hn1 : 2 ≤ n) (hn2 : n ≤ 7) (gm : ∀ i, mv i < 7) (gr : ∀ i, rw i < 7) (gx : ∀ i, nx i < 7) (a : Int32) (hy0 : PM n mv) {kc ks : Nat} : jMet X mX8_order d kc ks [.ref 19, .int a] w (pI (fun _ => True) (fun w' => ∃ (th' : Int32), RM n mv rw nx b bt kn en dn rf kk th' w' ∧ FR b b w w')) := by
  refine jMet_of hs (by decide +kernel) (Nat.le_of_ble_eq_true rfl) (L := [some (.ref 19), some (.int a)]) rfl ?_
  have hfc := fc_7 hn2
  have hfp := fc_pos n
  obtain ⟨h19, h20, h21, h22, hbb, hbl, hb3⟩ := hR
  have hF : FR b b w w := FR.rf
  refine J_aload_n (pc := 0) dX8_order_0 rfl rfl rfl ?_
  refine J_iload_n (pc := 1) dX8_order_1 rfl rfl ?_
  refine J_callS0 (pc := 2) (M := mX8_order) (as := [.int a]) dX8_order_2 fw_X8_isCell fl_X8_108 fs_X8_isCell rfl (c_X8_isCell hs (d := d - 1) (by omega) (w := w) a (kc := 0) (ks := 0)) (by omega) (st := [.ref 19]) (Nat.le_of_ble_eq_true rfl) rfl (kr_P fun v1 hv1 => ?_) kx_I
  rcases hv1 with ⟨rfl, hk1_0⟩ | ⟨q1, rfl, hk1_0, rfl⟩
  · refine J_if_neN (pc := 5) (tgt := 12) dX8_order_5 (by decide) (by decide) (fun h => absurd h (by decide)) (fun _ => ?_)
    refine J_iconst (pc := 8) (v := nI 1) dX8_order_8 (by decide) ?_
    refine J_goto (pc := 9) (tgt := 13) dX8_order_9 (by decide) ?_
    refine J_callV0 (pc := 13) (M := mX8_order) (as := [.int (nI 1)]) dX8_order_13 fw_X8_isThrown_ fl_X8_105 fm_X8_isThrown_ fe_X8_isThrown_ h19 (by decide) rfl rfl rfl (c_X8_isThrown_ hs (d := d - 1) (by omega) (w := w) (n := n) (mv := mv) (rw := rw) (nx := nx) (b := b) (bt := bt) (kn := kn) (en := en) (dn := dn) (rf := rf) (kk := kk) (th := th) ⟨h19, h20, h21, h22, hbb, hbl, hb3⟩ hn1 hn2 gm gr gx 1 (by first | assumption | omega) (kc := 0) (ks := 0)) (by omega) (st := []) (Nat.le_of_ble_eq_true rfl) rfl (kr_I fun v2 w2 hv2 hw2 => ?_) kx_I
    obtain ⟨hR2, hFc2⟩ := hw2
    obtain ⟨h19_2, h20_2, h21_2, h22_2, hbb_2, hbl_2, hb3_2⟩ := hR2
    have hF2 := hF.tr hFc2
    subst hv2
    show J X mX8_order d kc ks 16 [some (.ref 19), some (.int a)] [.int (nI 1)] w2 _
    refine J_if_eqN (pc := 16) (tgt := 23) dX8_order_16 (by decide) (by decide) (fun h => absurd h (by decide)) (fun _ => ?_)
    refine J_iconst (pc := 19) (v := nI 0) dX8_order_19 (by decide) ?_
    refine J_goto (pc := 20) (tgt := 35) dX8_order_20 (by decide) ?_
    exact J_iret (pc := 35) dX8_order_35 rfl ⟨trivial, ⟨nI (tW 1 0), ⟨h19_2, h20_2, h21_2, h22_2, hbb_2, hbl_2, hb3_2⟩, hF2⟩⟩
  · refine J_if_neN (pc := 5) (tgt := 12) dX8_order_5 (by decide) (by decide) (fun _ => ?_) (fun h => absurd h (by decide))
    refine J_iconst (pc := 12) (v := nI 0) dX8_order_12 (by decide) ?_
    refine J_callV0 (pc := 13) (M := mX8_order) (as := [.int (nI 0)]) dX8_order_13 fw_X8_isThrown_ fl_X8_105 fm_X8_isThrown_ fe_X8_isThrown_ h19 (by decide) rfl rfl rfl (c_X8_isThrown_ hs (d := d - 1) (by omega) (w := w) (n := n) (mv := mv) (rw := rw) (nx := nx) (b := b) (bt := bt) (kn := kn) (en := en) (dn := dn) (rf := rf) (kk := kk) (th := th) ⟨h19, h20, h21, h22, hbb, hbl, hb3⟩ hn1 hn2 gm gr gx 0 (by first | assumption | omega) (kc := 0) (ks := 0)) (by omega) (st := []) (Nat.le_of_ble_eq_true rfl) rfl (kr_I fun v3 w3 hv3 hw3 => ?_) kx_I
    obtain ⟨hR3, hFc3⟩ := hw3
    obtain ⟨h19_3, h20_3, h21_3, h22_3, hbb_3, hbl_3, hb3_3⟩ := hR3
    have hF3 := hF.tr hFc3
    subst hv3
    show J X mX8_order d kc ks 16 [some (.ref 19), some (.int (nI q1))] [.int (nI 0)] w3 _
    refine J_if_eqN (pc := 16) (tgt := 23) dX8_order_16 (by decide) (by decide) (fun _ => ?_) (fun h => absurd h (by decide))
    refine J_aload_n (pc := 23) dX8_order_23 rfl rfl rfl ?_
    refine J_aload_n (pc := 24) dX8_order_24 rfl rfl rfl ?_
    refine J_get (pc := 25) (k := 1) dX8_order_25 kC9 (by decide) ff_X8_13 h19_3 rfl ?_
    refine J_iload_n (pc := 28) dX8_order_28 rfl rfl ?_
    refine J_bipush (pc := 29) (v := nI 7) dX8_order_29 (by decide) ?_
    refine J_imulN (pc := 31) dX8_order_31 ?_
    refine J_callV0 (pc := 32) (M := mX8_order) (as := [.ref 20, .int (nI (q1 * 7))]) dX8_order_32 fw_X8_orderOf fl_X8_172 fm_X8_orderOf fe_X8_orderOf h19_3 (by decide) rfl rfl rfl (c_X8_orderOf_at20 hs (d := d - 1) (by omega) (w := w3) (n := n) (mv := mv) (rw := rw) (nx := nx) (b := b) (bt := bt) (kn := kn) (en := en) (dn := dn) (rf := rf) (kk := kk) (th := nI (tW 0 0)) ⟨h19_3, h20_3, h21_3, h22_3, hbb_3, hbl_3, hb3_3⟩ hn1 hn2 gm gr gx (q1 * 7) (by first | assumption | omega) (by exact hy0 _ (by assumption)) (kc := 0) (ks := 0)) (by omega) (st := []) (Nat.le_of_ble_eq_true rfl) rfl (kr_P fun v4 hv4 => ?_) kx_I
    obtain ⟨k4, rfl, hk4⟩ := hv4
    exact J_iret (pc := 35) dX8_order_35 rfl ⟨trivial, ⟨nI (tW 0 0), ⟨h19_3, h20_3, h21_3, h22_3, hbb_3, hbl_3, hb3_3⟩, hF3⟩⟩
set_option maxRecDepth 100000 in
set_option maxHeartbeats 4000000 in
theorem c_X8_sign {X : jX} (hs : X.1.stackTraces = false) {d : Nat} (hd : 2 ≤ d) {n : Nat} {mv rw nx : Nat → Nat} {b : Nat} {bt : List Int32} {kn en dn rf kk th : Int32} {w : List jC} (hR : RM n mv rw nx b bt kn en dn rf kk th w) (hn1 : 2 ≤ n) (hn2 : n ≤ 7) (gm : ∀ i, mv i < 7) (gr : ∀ i, rw i < 7) (gx : ∀ i, nx i < 7) (a : Int32) {kc ks : Nat} : jMet X mX8_sign d kc ks [.ref 19, .int a] w (pI (fun _ => True) (fun w' => ∃ (th' : Int32), RM n mv rw nx b bt kn en dn rf kk th' w' ∧ FR b b w w')) := by
  refine jMet_of hs (by decide +kernel) (Nat.le_of_ble_eq_true rfl) (L := [some (.ref 19), some (.int a)]) rfl ?_
  have hfc := fc_7 hn2
  have hfp := fc_pos n
  obtain ⟨h19, h20, h21, h22, hbb, hbl, hb3⟩ := hR
  have hF : FR b b w w := FR.rf
  refine J_aload_n (pc := 0) dX8_sign_0 rfl rfl rfl ?_
  refine J_iload_n (pc := 1) dX8_sign_1 rfl rfl ?_
  refine J_callS0 (pc := 2) (M := mX8_sign) (as := [.int a]) dX8_sign_2 fw_X8_isCell fl_X8_108 fs_X8_isCell rfl (c_X8_isCell hs (d := d - 1) (by omega) (w := w) a (kc := 0) (ks := 0)) (by omega) (st := [.ref 19]) (Nat.le_of_ble_eq_true rfl) rfl (kr_P fun v1 hv1 => ?_) kx_I
  rcases hv1 with ⟨rfl, hk1_0⟩ | ⟨q1, rfl, hk1_0, rfl⟩
  · refine J_if_neN (pc := 5) (tgt := 12) dX8_sign_5 (by decide) (by decide) (fun h => absurd h (by decide)) (fun _ => ?_)
    refine J_iconst (pc := 8) (v := nI 1) dX8_sign_8 (by decide) ?_
    refine J_goto (pc := 9) (tgt := 13) dX8_sign_9 (by decide) ?_
    refine J_callV0 (pc := 13) (M := mX8_sign) (as := [.int (nI 1)]) dX8_sign_13 fw_X8_isThrown_ fl_X8_105 fm_X8_isThrown_ fe_X8_isThrown_ h19 (by decide) rfl rfl rfl (c_X8_isThrown_ hs (d := d - 1) (by omega) (w := w) (n := n) (mv := mv) (rw := rw) (nx := nx) (b := b) (bt := bt) (kn := kn) (en := en) (dn := dn) (rf := rf) (kk := kk) (th := th) ⟨h19, h20, h21, h22, hbb, hbl, hb3⟩ hn1 hn2 gm gr gx 1 (by first | assumption | omega) (kc := 0) (ks := 0)) (by omega) (st := []) (Nat.le_of_ble_eq_true rfl) rfl (kr_I fun v2 w2 hv2 hw2 => ?_) kx_I
    obtain ⟨hR2, hFc2⟩ := hw2
    obtain ⟨h19_2, h20_2, h21_2, h22_2, hbb_2, hbl_2, hb3_2⟩ := hR2
    have hF2 := hF.tr hFc2
    subst hv2
    show J X mX8_sign d kc ks 16 [some (.ref 19), some (.int a)] [.int (nI 1)] w2 _
    refine J_if_eqN (pc := 16) (tgt := 23) dX8_sign_16 (by decide) (by decide) (fun h => absurd h (by decide)) (fun _ => ?_)
    refine J_iconst (pc := 19) (v := nI 0) dX8_sign_19 (by decide) ?_
    refine J_goto (pc := 20) (tgt := 35) dX8_sign_20 (by decide) ?_
    exact J_iret (pc := 35) dX8_sign_35 rfl ⟨trivial, ⟨nI (tW 1 0), ⟨h19_2, h20_2, h21_2, h22_2, hbb_2, hbl_2, hb3_2⟩, hF2⟩⟩
  · refine J_if_neN (pc := 5) (tgt := 12) dX8_sign_5 (by decide) (by decide) (fun _ => ?_) (fun h => absurd h (by decide))
    refine J_iconst (pc := 12) (v := nI 0) dX8_sign_12 (by decide) ?_
    refine J_callV0 (pc := 13) (M := mX8_sign) (as := [.int (nI 0)]) dX8_sign_13 fw_X8_isThrown_ fl_X8_105 fm_X8_isThrown_ fe_X8_isThrown_ h19 (by decide) rfl rfl rfl (c_X8_isThrown_ hs (d := d - 1) (by omega) (w := w) (n := n) (mv := mv) (rw := rw) (nx := nx) (b := b) (bt := bt) (kn := kn) (en := en) (dn := dn) (rf := rf) (kk := kk) (th := th) ⟨h19, h20, h21, h22, hbb, hbl, hb3⟩ hn1 hn2 gm gr gx 0 (by first | assumption | omega) (kc := 0) (ks := 0)) (by omega) (st := []) (Nat.le_of_ble_eq_true rfl) rfl (kr_I fun v3 w3 hv3 hw3 => ?_) kx_I
    obtain ⟨hR3, hFc3⟩ := hw3
    obtain ⟨h19_3, h20_3, h21_3, h22_3, hbb_3, hbl_3, hb3_3⟩ := hR3
    have hF3 := hF.tr hFc3
    subst hv3
    show J X mX8_sign d kc ks 16 [some (.ref 19), some (.int (nI q1))] [.int (nI 0)] w3 _
    refine J_if_eqN (pc := 16) (tgt := 23) dX8_sign_16 (by decide) (by decide) (fun _ => ?_) (fun h => absurd h (by decide))
    refine J_aload_n (pc := 23) dX8_sign_23 rfl rfl rfl ?_
    refine J_aload_n (pc := 24) dX8_sign_24 rfl rfl rfl ?_
    refine J_get (pc := 25) (k := 1) dX8_sign_25 kC9 (by decide) ff_X8_13 h19_3 rfl ?_
    refine J_iload_n (pc := 28) dX8_sign_28 rfl rfl ?_
    refine J_bipush (pc := 29) (v := nI 7) dX8_sign_29 (by decide) ?_
    refine J_imulN (pc := 31) dX8_sign_31 ?_
    refine J_callV0 (pc := 32) (M := mX8_sign) (as := [.ref 20, .int (nI (q1 * 7))]) dX8_sign_32 fw_X8_signOf fl_X8_115 fm_X8_signOf fe_X8_signOf h19_3 (by decide) rfl rfl rfl (c_X8_signOf_at20 hs (d := d - 1) (by omega) (w := w3) (n := n) (mv := mv) (rw := rw) (nx := nx) (b := b) (bt := bt) (kn := kn) (en := en) (dn := dn) (rf := rf) (kk := kk) (th := nI (tW 0 0)) ⟨h19_3, h20_3, h21_3, h22_3, hbb_3, hbl_3, hb3_3⟩ hn1 hn2 gm gr gx (q1 * 7) (by first | assumption | omega) (kc := 0) (ks := 0)) (by omega) (st := []) (Nat.le_of_ble_eq_true rfl) rfl (kr_P fun v4 hv4 => ?_) kx_I
    exact J_iret (pc := 35) dX8_sign_35 rfl ⟨trivial, ⟨nI (tW 0 0), ⟨h19_3, h20_3, h21_3, h22_3, hbb_3, hbl_3, hb3_3⟩, hF3⟩⟩
set_option maxRecDepth 100000 in
set_option maxHeartbeats 4000000 in
theorem c_X8_stays {X : jX} (hs : X.1.stackTraces = false) {d : Nat} (hd : 2 ≤ d) {n : Nat} {mv rw nx : Nat → Nat} {b : Nat} {bt : List Int32} {kn en dn rf kk th : Int32} {w : List jC} (hR : RM n mv rw nx b bt kn en dn rf kk th w) (hn1 : 2 ≤ n) (hn2 : n ≤ 7) (gm : ∀ i, mv i < 7) (gr : ∀ i, rw i < 7) (gx : ∀ i, nx i < 7) (a : Int32) {kc ks : Nat} : jMet X mX8_stays d kc ks [.ref 19, .int a] w (pI (fun _ => True) (fun w' => ∃ (th' : Int32), RM n mv rw nx b bt kn en dn rf kk th' w' ∧ FR b b w w')) := by
  refine jMet_of hs (by decide +kernel) (Nat.le_of_ble_eq_true rfl) (L := [some (.ref 19), some (.int a)]) rfl ?_
  have hfc := fc_7 hn2
  have hfp := fc_pos n
  obtain ⟨h19, h20, h21, h22, hbb, hbl, hb3⟩ := hR
  have hF : FR b b w w := FR.rf
  refine J_aload_n (pc := 0) dX8_stays_0 rfl rfl rfl ?_
  refine J_iload_n (pc := 1) dX8_stays_1 rfl rfl ?_
  refine J_callS0 (pc := 2) (M := mX8_stays) (as := [.int a]) dX8_stays_2 fw_X8_isCell fl_X8_108 fs_X8_isCell rfl (c_X8_isCell hs (d := d - 1) (by omega) (w := w) a (kc := 0) (ks := 0)) (by omega) (st := [.ref 19]) (Nat.le_of_ble_eq_true rfl) rfl (kr_P fun v1 hv1 => ?_) kx_I
  rcases hv1 with ⟨rfl, hk1_0⟩ | ⟨q1, rfl, hk1_0, rfl⟩
  · refine J_if_neN (pc := 5) (tgt := 12) dX8_stays_5 (by decide) (by decide) (fun h => absurd h (by decide)) (fun _ => ?_)
    refine J_iconst (pc := 8) (v := nI 1) dX8_stays_8 (by decide) ?_
    refine J_goto (pc := 9) (tgt := 13) dX8_stays_9 (by decide) ?_
    refine J_callV0 (pc := 13) (M := mX8_stays) (as := [.int (nI 1)]) dX8_stays_13 fw_X8_isThrown_ fl_X8_105 fm_X8_isThrown_ fe_X8_isThrown_ h19 (by decide) rfl rfl rfl (c_X8_isThrown_ hs (d := d - 1) (by omega) (w := w) (n := n) (mv := mv) (rw := rw) (nx := nx) (b := b) (bt := bt) (kn := kn) (en := en) (dn := dn) (rf := rf) (kk := kk) (th := th) ⟨h19, h20, h21, h22, hbb, hbl, hb3⟩ hn1 hn2 gm gr gx 1 (by first | assumption | omega) (kc := 0) (ks := 0)) (by omega) (st := []) (Nat.le_of_ble_eq_true rfl) rfl (kr_I fun v2 w2 hv2 hw2 => ?_) kx_I
    obtain ⟨hR2, hFc2⟩ := hw2
    obtain ⟨h19_2, h20_2, h21_2, h22_2, hbb_2, hbl_2, hb3_2⟩ := hR2
    have hF2 := hF.tr hFc2
    subst hv2
    show J X mX8_stays d kc ks 16 [some (.ref 19), some (.int a)] [.int (nI 1)] w2 _
    refine J_if_eqN (pc := 16) (tgt := 23) dX8_stays_16 (by decide) (by decide) (fun h => absurd h (by decide)) (fun _ => ?_)
    refine J_iconst (pc := 19) (v := nI 0) dX8_stays_19 (by decide) ?_
    refine J_goto (pc := 20) (tgt := 28) dX8_stays_20 (by decide) ?_
    exact J_iret (pc := 28) dX8_stays_28 rfl ⟨trivial, ⟨nI (tW 1 0), ⟨h19_2, h20_2, h21_2, h22_2, hbb_2, hbl_2, hb3_2⟩, hF2⟩⟩
  · refine J_if_neN (pc := 5) (tgt := 12) dX8_stays_5 (by decide) (by decide) (fun _ => ?_) (fun h => absurd h (by decide))
    refine J_iconst (pc := 12) (v := nI 0) dX8_stays_12 (by decide) ?_
    refine J_callV0 (pc := 13) (M := mX8_stays) (as := [.int (nI 0)]) dX8_stays_13 fw_X8_isThrown_ fl_X8_105 fm_X8_isThrown_ fe_X8_isThrown_ h19 (by decide) rfl rfl rfl (c_X8_isThrown_ hs (d := d - 1) (by omega) (w := w) (n := n) (mv := mv) (rw := rw) (nx := nx) (b := b) (bt := bt) (kn := kn) (en := en) (dn := dn) (rf := rf) (kk := kk) (th := th) ⟨h19, h20, h21, h22, hbb, hbl, hb3⟩ hn1 hn2 gm gr gx 0 (by first | assumption | omega) (kc := 0) (ks := 0)) (by omega) (st := []) (Nat.le_of_ble_eq_true rfl) rfl (kr_I fun v3 w3 hv3 hw3 => ?_) kx_I
    obtain ⟨hR3, hFc3⟩ := hw3
    obtain ⟨h19_3, h20_3, h21_3, h22_3, hbb_3, hbl_3, hb3_3⟩ := hR3
    have hF3 := hF.tr hFc3
    subst hv3
    show J X mX8_stays d kc ks 16 [some (.ref 19), some (.int (nI q1))] [.int (nI 0)] w3 _
    refine J_if_eqN (pc := 16) (tgt := 23) dX8_stays_16 (by decide) (by decide) (fun _ => ?_) (fun h => absurd h (by decide))
    refine J_aload_n (pc := 23) dX8_stays_23 rfl rfl rfl ?_
    refine J_iload_n (pc := 24) dX8_stays_24 rfl rfl ?_
    refine J_callV0 (pc := 25) (M := mX8_stays) (as := [.int (nI q1)]) dX8_stays_25 fw_X8_staysNow fl_X8_175 fm_X8_staysNow fe_X8_staysNow h19_3 (by decide) rfl rfl rfl (c_X8_staysNow hs (d := d - 1) (by omega) (w := w3) (n := n) (mv := mv) (rw := rw) (nx := nx) (b := b) (bt := bt) (kn := kn) (en := en) (dn := dn) (rf := rf) (kk := kk) (th := nI (tW 0 0)) ⟨h19_3, h20_3, h21_3, h22_3, hbb_3, hbl_3, hb3_3⟩ hn1 hn2 gm gr gx q1 (by first | assumption | omega) (kc := 0) (ks := 0)) (by omega) (st := []) (Nat.le_of_ble_eq_true rfl) rfl (kr_P fun v4 hv4 => ?_) kx_I
    exact J_iret (pc := 28) dX8_stays_28 rfl ⟨trivial, ⟨nI (tW 0 0), ⟨h19_3, h20_3, h21_3, h22_3, hbb_3, hbl_3, hb3_3⟩, hF3⟩⟩
set_option maxRecDepth 100000 in
set_option maxHeartbeats 4000000 in
theorem c_X8_areAlike {X : jX} (hs : X.1.stackTraces = false) {d : Nat} (hd : 2 ≤ d) {n : Nat} {mv rw nx : Nat → Nat} {b : Nat} {bt : List Int32} {kn en dn rf kk th : Int32} {w : List jC} (hR : RM n mv rw nx b bt kn en dn rf kk th w) (hn1 : 2 ≤ n) (hn2 : n ≤ 7) (gm : ∀ i, mv i < 7) (gr : ∀ i, rw i < 7) (gx : ∀ i, nx i < 7) (a : Int32) (c : Int32) (hy0 : PM n mv) {kc ks : Nat} : jMet X mX8_areAlike d kc ks [.ref 19, .int a, .int c] w (pI (fun v => ∃ k : Nat, v = nI k ∧ k < 2) (fun w' => ∃ (th' : Int32), RM n mv rw nx b bt kn en dn rf kk th' w' ∧ FR b b w w')) := by
  refine jMet_of hs (by decide +kernel) (Nat.le_of_ble_eq_true rfl) (L := [some (.ref 19), some (.int a), some (.int c), none, none]) rfl ?_
  have hfc := fc_7 hn2
  have hfp := fc_pos n
  obtain ⟨h19, h20, h21, h22, hbb, hbl, hb3⟩ := hR
  have hF : FR b b w w := FR.rf
  refine J_aload_n (pc := 0) dX8_areAlike_0 rfl rfl rfl ?_
  refine J_iload_n (pc := 1) dX8_areAlike_1 rfl rfl ?_
  refine J_callS0 (pc := 2) (M := mX8_areAlike) (as := [.int a]) dX8_areAlike_2 fw_X8_isCell fl_X8_108 fs_X8_isCell rfl (c_X8_isCell hs (d := d - 1) (by omega) (w := w) a (kc := 0) (ks := 0)) (by omega) (st := [.ref 19]) (Nat.le_of_ble_eq_true rfl) rfl (kr_P fun v1 hv1 => ?_) kx_I
  rcases hv1 with ⟨rfl, hk1_0⟩ | ⟨q1, rfl, hk1_0, rfl⟩
  · refine J_if_eqN (pc := 5) (tgt := 15) dX8_areAlike_5 (by decide) (by decide) (fun _ => ?_) (fun h => absurd h (by decide))
    refine J_iconst (pc := 15) (v := nI 1) dX8_areAlike_15 (by decide) ?_
    refine J_goto (pc := 16) (tgt := 20) dX8_areAlike_16 (by decide) ?_
    refine J_callV0 (pc := 20) (M := mX8_areAlike) (as := [.int (nI 1)]) dX8_areAlike_20 fw_X8_isThrown_ fl_X8_105 fm_X8_isThrown_ fe_X8_isThrown_ h19 (by decide) rfl rfl rfl (c_X8_isThrown_ hs (d := d - 1) (by omega) (w := w) (n := n) (mv := mv) (rw := rw) (nx := nx) (b := b) (bt := bt) (kn := kn) (en := en) (dn := dn) (rf := rf) (kk := kk) (th := th) ⟨h19, h20, h21, h22, hbb, hbl, hb3⟩ hn1 hn2 gm gr gx 1 (by first | assumption | omega) (kc := 0) (ks := 0)) (by omega) (st := []) (Nat.le_of_ble_eq_true rfl) rfl (kr_I fun v2 w2 hv2 hw2 => ?_) kx_I
    obtain ⟨hR2, hFc2⟩ := hw2
    obtain ⟨h19_2, h20_2, h21_2, h22_2, hbb_2, hbl_2, hb3_2⟩ := hR2
    have hF2 := hF.tr hFc2
    subst hv2
    show J X mX8_areAlike d kc ks 23 [some (.ref 19), some (.int a), some (.int c), none, none] [.int (nI 1)] w2 _
    refine J_if_eqN (pc := 23) (tgt := 28) dX8_areAlike_23 (by decide) (by decide) (fun h => absurd h (by decide)) (fun _ => ?_)
    refine J_iconst (pc := 26) (v := nI 0) dX8_areAlike_26 (by decide) ?_
    exact J_zret (pc := 27) dX8_areAlike_27 rfl (nar_b (by first | decide | omega)) ⟨⟨0, rfl, by omega⟩, ⟨nI (tW 1 0), ⟨h19_2, h20_2, h21_2, h22_2, hbb_2, hbl_2, hb3_2⟩, hF2⟩⟩
  · refine J_if_eqN (pc := 5) (tgt := 15) dX8_areAlike_5 (by decide) (by decide) (fun h => absurd h (by decide)) (fun _ => ?_)
    refine J_iload_n (pc := 8) dX8_areAlike_8 rfl rfl ?_
    refine J_callS0 (pc := 9) (M := mX8_areAlike) (as := [.int c]) dX8_areAlike_9 fw_X8_isCell fl_X8_108 fs_X8_isCell rfl (c_X8_isCell hs (d := d - 1) (by omega) (w := w) c (kc := 0) (ks := 0)) (by omega) (st := [.ref 19]) (Nat.le_of_ble_eq_true rfl) rfl (kr_P fun v3 hv3 => ?_) kx_I
    rcases hv3 with ⟨rfl, hk3_0⟩ | ⟨q3, rfl, hk3_0, rfl⟩
    · refine J_if_neN (pc := 12) (tgt := 19) dX8_areAlike_12 (by decide) (by decide) (fun h => absurd h (by decide)) (fun _ => ?_)
      refine J_iconst (pc := 15) (v := nI 1) dX8_areAlike_15 (by decide) ?_
      refine J_goto (pc := 16) (tgt := 20) dX8_areAlike_16 (by decide) ?_
      refine J_callV0 (pc := 20) (M := mX8_areAlike) (as := [.int (nI 1)]) dX8_areAlike_20 fw_X8_isThrown_ fl_X8_105 fm_X8_isThrown_ fe_X8_isThrown_ h19 (by decide) rfl rfl rfl (c_X8_isThrown_ hs (d := d - 1) (by omega) (w := w) (n := n) (mv := mv) (rw := rw) (nx := nx) (b := b) (bt := bt) (kn := kn) (en := en) (dn := dn) (rf := rf) (kk := kk) (th := th) ⟨h19, h20, h21, h22, hbb, hbl, hb3⟩ hn1 hn2 gm gr gx 1 (by first | assumption | omega) (kc := 0) (ks := 0)) (by omega) (st := []) (Nat.le_of_ble_eq_true rfl) rfl (kr_I fun v4 w4 hv4 hw4 => ?_) kx_I
      obtain ⟨hR4, hFc4⟩ := hw4
      obtain ⟨h19_4, h20_4, h21_4, h22_4, hbb_4, hbl_4, hb3_4⟩ := hR4
      have hF4 := hF.tr hFc4
      subst hv4
      show J X mX8_areAlike d kc ks 23 [some (.ref 19), some (.int (nI q1)), some (.int c), none, none] [.int (nI 1)] w4 _
      refine J_if_eqN (pc := 23) (tgt := 28) dX8_areAlike_23 (by decide) (by decide) (fun h => absurd h (by decide)) (fun _ => ?_)
      refine J_iconst (pc := 26) (v := nI 0) dX8_areAlike_26 (by decide) ?_
      exact J_zret (pc := 27) dX8_areAlike_27 rfl (nar_b (by first | decide | omega)) ⟨⟨0, rfl, by omega⟩, ⟨nI (tW 1 0), ⟨h19_4, h20_4, h21_4, h22_4, hbb_4, hbl_4, hb3_4⟩, hF4⟩⟩
    · refine J_if_neN (pc := 12) (tgt := 19) dX8_areAlike_12 (by decide) (by decide) (fun _ => ?_) (fun h => absurd h (by decide))
      refine J_iconst (pc := 19) (v := nI 0) dX8_areAlike_19 (by decide) ?_
      refine J_callV0 (pc := 20) (M := mX8_areAlike) (as := [.int (nI 0)]) dX8_areAlike_20 fw_X8_isThrown_ fl_X8_105 fm_X8_isThrown_ fe_X8_isThrown_ h19 (by decide) rfl rfl rfl (c_X8_isThrown_ hs (d := d - 1) (by omega) (w := w) (n := n) (mv := mv) (rw := rw) (nx := nx) (b := b) (bt := bt) (kn := kn) (en := en) (dn := dn) (rf := rf) (kk := kk) (th := th) ⟨h19, h20, h21, h22, hbb, hbl, hb3⟩ hn1 hn2 gm gr gx 0 (by first | assumption | omega) (kc := 0) (ks := 0)) (by omega) (st := []) (Nat.le_of_ble_eq_true rfl) rfl (kr_I fun v5 w5 hv5 hw5 => ?_) kx_I
      obtain ⟨hR5, hFc5⟩ := hw5
      obtain ⟨h19_5, h20_5, h21_5, h22_5, hbb_5, hbl_5, hb3_5⟩ := hR5
      have hF5 := hF.tr hFc5
      subst hv5
      show J X mX8_areAlike d kc ks 23 [some (.ref 19), some (.int (nI q1)), some (.int (nI q3)), none, none] [.int (nI 0)] w5 _
      refine J_if_eqN (pc := 23) (tgt := 28) dX8_areAlike_23 (by decide) (by decide) (fun _ => ?_) (fun h => absurd h (by decide))
      refine J_iconst (pc := 28) (v := nI 1) dX8_areAlike_28 (by decide) ?_
      refine J_istore_n (pc := 29) dX8_areAlike_29 rfl (by decide) rfl ?_
      show J X mX8_areAlike d kc ks 30 [some (.ref 19), some (.int (nI q1)), some (.int (nI q3)), some (.int (nI 1)), none] [] w5 _
      refine J_iconst (pc := 30) (v := nI 1) dX8_areAlike_30 (by decide) ?_
      refine J_istore (pc := 31) dX8_areAlike_31 (by decide) rfl ?_
      show J X mX8_areAlike d kc ks 33 [some (.ref 19), some (.int (nI q1)), some (.int (nI q3)), some (.int (nI 1)), some (.int (nI 1))] [] w5 _
      have lp33_6 : ∀ (fuel : Nat) (y3 : Nat) (c4 : Nat), (y3 < 2) → (1 ≤ c4) → (c4 ≤ n + 1) → (n + 1 - c4 < fuel) → J X mX8_areAlike d kc ks 33 [some (.ref 19), some (.int (nI q1)), some (.int (nI q3)), some (.int (nI y3)), some (.int (nI c4))] [] w5 (pI (fun v => ∃ k : Nat, v = nI k ∧ k < 2) (fun w' => ∃ (th' : Int32), RM n mv rw nx b bt kn en dn rf kk th' w' ∧ FR b b w w')) := by
        intro fuellp33_6
        induction fuellp33_6 with
        | zero => intros; omega
        | succ fuellp33_6 ihlp33_6 =>
          intro y3 c4 hv33_0 hv33_1 hv33_2 hf7
          refine J_iload (pc := 33) dX8_areAlike_33 rfl ?_
          refine J_aload_n (pc := 35) dX8_areAlike_35 rfl rfl rfl ?_
          refine J_get (pc := 36) (k := 0) dX8_areAlike_36 kC9 (by decide) ff_X8_7 h19_5 rfl ?_
          refine J_icmp_gtN (pc := 39) (tgt := 73) dX8_areAlike_39 (by decide) (by omega) (by omega) (fun ht8 => ?_) (fun hf9 => ?_)
          · refine J_iload_n (pc := 73) dX8_areAlike_73 rfl rfl ?_
            exact J_zret (pc := 74) dX8_areAlike_74 rfl (nar_b (by first | decide | omega)) ⟨⟨y3, rfl, by omega⟩, ⟨nI (tW 0 0), ⟨h19_5, h20_5, h21_5, h22_5, hbb_5, hbl_5, hb3_5⟩, hF5⟩⟩
          · refine J_iload_n (pc := 42) dX8_areAlike_42 rfl rfl ?_
            refine J_aload_n (pc := 43) dX8_areAlike_43 rfl rfl rfl ?_
            refine J_iload_n (pc := 44) dX8_areAlike_44 rfl rfl ?_
            refine J_iload (pc := 45) dX8_areAlike_45 rfl ?_
            refine J_callV0 (pc := 47) (M := mX8_areAlike) (as := [.int (nI q1), .int (nI c4)]) dX8_areAlike_47 fw_X8_longOnes fl_X8_162 fm_X8_longOnes fe_X8_longOnes h19_5 (by decide) rfl rfl rfl (c_X8_longOnes hs (d := d - 1) (by omega) (w := w5) (n := n) (mv := mv) (rw := rw) (nx := nx) (b := b) (bt := bt) (kn := kn) (en := en) (dn := dn) (rf := rf) (kk := kk) (th := nI (tW 0 0)) ⟨h19_5, h20_5, h21_5, h22_5, hbb_5, hbl_5, hb3_5⟩ hn1 hn2 gm gr gx q1 c4 (by first | assumption | omega) (by first | assumption | omega) (by first | assumption | omega) (by first | assumption | omega) (kc := 0) (ks := 0)) (by omega) (st := [.int (nI y3)]) (Nat.le_of_ble_eq_true rfl) rfl (kr_P fun v10 hv10 => ?_) kx_I
            obtain ⟨k10, rfl, hk10⟩ := hv10
            refine J_aload_n (pc := 50) dX8_areAlike_50 rfl rfl rfl ?_
            refine J_iload_n (pc := 51) dX8_areAlike_51 rfl rfl ?_
            refine J_iload (pc := 52) dX8_areAlike_52 rfl ?_
            refine J_callV0 (pc := 54) (M := mX8_areAlike) (as := [.int (nI q3), .int (nI c4)]) dX8_areAlike_54 fw_X8_longOnes fl_X8_162 fm_X8_longOnes fe_X8_longOnes h19_5 (by decide) rfl rfl rfl (c_X8_longOnes hs (d := d - 1) (by omega) (w := w5) (n := n) (mv := mv) (rw := rw) (nx := nx) (b := b) (bt := bt) (kn := kn) (en := en) (dn := dn) (rf := rf) (kk := kk) (th := nI (tW 0 0)) ⟨h19_5, h20_5, h21_5, h22_5, hbb_5, hbl_5, hb3_5⟩ hn1 hn2 gm gr gx q3 c4 (by first | assumption | omega) (by first | assumption | omega) (by first | assumption | omega) (by first | assumption | omega) (kc := 0) (ks := 0)) (by omega) (st := [.int (nI k10), .int (nI y3)]) (Nat.le_of_ble_eq_true rfl) rfl (kr_P fun v11 hv11 => ?_) kx_I
            obtain ⟨k11, rfl, hk11⟩ := hv11
            refine J_icmp_neN (pc := 57) (tgt := 64) dX8_areAlike_57 (by decide) (by omega) (by omega) (fun ht12 => ?_) (fun hf13 => ?_)
            · refine J_iconst (pc := 64) (v := nI 0) dX8_areAlike_64 (by decide) ?_
              refine J_iand1 (pc := 65) dX8_areAlike_65 (by omega) (by omega) ?_
              refine J_istore_n (pc := 66) dX8_areAlike_66 rfl (by decide) rfl ?_
              show J X mX8_areAlike d kc ks 67 [some (.ref 19), some (.int (nI q1)), some (.int (nI q3)), some (.int (nI (y3 * 0))), some (.int (nI c4))] [] w5 _
              refine J_iincN (pc := 67) (b := 1) dX8_areAlike_67 rfl (by decide) (by decide) rfl ?_
              show J X mX8_areAlike d kc ks 70 [some (.ref 19), some (.int (nI q1)), some (.int (nI q3)), some (.int (nI (y3 * 0))), some (.int (nI (c4 + 1)))] [] w5 _
              refine J_goto (pc := 70) (tgt := 33) dX8_areAlike_70 (by decide) ?_
              exact J_sub (L' := [some (.ref 19), some (.int (nI q1)), some (.int (nI q3)), some (.int (nI (y3 * 0))), some (.int (nI (c4 + 1)))]) ⟨rfl, ⟨rfl, ⟨rfl, ⟨rfl, ⟨rfl, trivial⟩⟩⟩⟩⟩ (ihlp33_6 (y3 * 0) (c4 + 1) (by first | assumption | omega) (by first | assumption | omega) (by first | assumption | omega) (by omega))
            · refine J_iconst (pc := 60) (v := nI 1) dX8_areAlike_60 (by decide) ?_
              refine J_goto (pc := 61) (tgt := 65) dX8_areAlike_61 (by decide) ?_
              have hm14 := Nat.mod_lt y3 (show 0 < 2 ^ 1 by decide)
              refine J_iandN (pc := 65) 1 dX8_areAlike_65 (by omega) (by decide) ?_
              refine J_istore_n (pc := 66) dX8_areAlike_66 rfl (by decide) rfl ?_
              show J X mX8_areAlike d kc ks 67 [some (.ref 19), some (.int (nI q1)), some (.int (nI q3)), some (.int (nI (y3 % 2 ^ 1))), some (.int (nI c4))] [] w5 _
              refine J_iincN (pc := 67) (b := 1) dX8_areAlike_67 rfl (by decide) (by decide) rfl ?_
              show J X mX8_areAlike d kc ks 70 [some (.ref 19), some (.int (nI q1)), some (.int (nI q3)), some (.int (nI (y3 % 2 ^ 1))), some (.int (nI (c4 + 1)))] [] w5 _
              refine J_goto (pc := 70) (tgt := 33) dX8_areAlike_70 (by decide) ?_
              exact J_sub (L' := [some (.ref 19), some (.int (nI q1)), some (.int (nI q3)), some (.int (nI (y3 % 2 ^ 1))), some (.int (nI (c4 + 1)))]) ⟨rfl, ⟨rfl, ⟨rfl, ⟨rfl, ⟨rfl, trivial⟩⟩⟩⟩⟩ (ihlp33_6 (y3 % 2 ^ 1) (c4 + 1) (by first | assumption | omega) (by first | assumption | omega) (by first | assumption | omega) (by omega))
      exact J_sub (L' := [some (.ref 19), some (.int (nI q1)), some (.int (nI q3)), some (.int (nI 1)), some (.int (nI 1))]) ⟨rfl, ⟨rfl, ⟨rfl, ⟨rfl, ⟨rfl, trivial⟩⟩⟩⟩⟩ (lp33_6 _ 1 1 (by first | assumption | omega) (by first | assumption | omega) (by first | assumption | omega) (Nat.lt_succ_self _))
set_option maxRecDepth 100000 in
set_option maxHeartbeats 4000000 in
theorem c_X8_commute {X : jX} (hs : X.1.stackTraces = false) {d : Nat} (hd : 2 ≤ d) {n : Nat} {mv rw nx : Nat → Nat} {b : Nat} {bt : List Int32} {kn en dn rf kk th : Int32} {w : List jC} (hR : RM n mv rw nx b bt kn en dn rf kk th w) (hn1 : 2 ≤ n) (hn2 : n ≤ 7) (gm : ∀ i, mv i < 7) (gr : ∀ i, rw i < 7) (gx : ∀ i, nx i < 7) (a : Int32) (c : Int32) {kc ks : Nat} : jMet X mX8_commute d kc ks [.ref 19, .int a, .int c] w (pI (fun v => ∃ k : Nat, v = nI k ∧ k < 2) (fun w' => ∃ (th' : Int32), RM n mv rw nx b bt kn en dn rf kk th' w' ∧ FR b b w w')) := by
  refine jMet_of hs (by decide +kernel) (Nat.le_of_ble_eq_true rfl) (L := [some (.ref 19), some (.int a), some (.int c), none]) rfl ?_
  have hfc := fc_7 hn2
  have hfp := fc_pos n
  obtain ⟨h19, h20, h21, h22, hbb, hbl, hb3⟩ := hR
  have hF : FR b b w w := FR.rf
  refine J_aload_n (pc := 0) dX8_commute_0 rfl rfl rfl ?_
  refine J_iload_n (pc := 1) dX8_commute_1 rfl rfl ?_
  refine J_callS0 (pc := 2) (M := mX8_commute) (as := [.int a]) dX8_commute_2 fw_X8_isCell fl_X8_108 fs_X8_isCell rfl (c_X8_isCell hs (d := d - 1) (by omega) (w := w) a (kc := 0) (ks := 0)) (by omega) (st := [.ref 19]) (Nat.le_of_ble_eq_true rfl) rfl (kr_P fun v1 hv1 => ?_) kx_I
  rcases hv1 with ⟨rfl, hk1_0⟩ | ⟨q1, rfl, hk1_0, rfl⟩
  · refine J_if_eqN (pc := 5) (tgt := 15) dX8_commute_5 (by decide) (by decide) (fun _ => ?_) (fun h => absurd h (by decide))
    refine J_iconst (pc := 15) (v := nI 1) dX8_commute_15 (by decide) ?_
    refine J_goto (pc := 16) (tgt := 20) dX8_commute_16 (by decide) ?_
    refine J_callV0 (pc := 20) (M := mX8_commute) (as := [.int (nI 1)]) dX8_commute_20 fw_X8_isThrown_ fl_X8_105 fm_X8_isThrown_ fe_X8_isThrown_ h19 (by decide) rfl rfl rfl (c_X8_isThrown_ hs (d := d - 1) (by omega) (w := w) (n := n) (mv := mv) (rw := rw) (nx := nx) (b := b) (bt := bt) (kn := kn) (en := en) (dn := dn) (rf := rf) (kk := kk) (th := th) ⟨h19, h20, h21, h22, hbb, hbl, hb3⟩ hn1 hn2 gm gr gx 1 (by first | assumption | omega) (kc := 0) (ks := 0)) (by omega) (st := []) (Nat.le_of_ble_eq_true rfl) rfl (kr_I fun v2 w2 hv2 hw2 => ?_) kx_I
    obtain ⟨hR2, hFc2⟩ := hw2
    obtain ⟨h19_2, h20_2, h21_2, h22_2, hbb_2, hbl_2, hb3_2⟩ := hR2
    have hF2 := hF.tr hFc2
    subst hv2
    show J X mX8_commute d kc ks 23 [some (.ref 19), some (.int a), some (.int c), none] [.int (nI 1)] w2 _
    refine J_if_eqN (pc := 23) (tgt := 28) dX8_commute_23 (by decide) (by decide) (fun h => absurd h (by decide)) (fun _ => ?_)
    refine J_iconst (pc := 26) (v := nI 0) dX8_commute_26 (by decide) ?_
    exact J_zret (pc := 27) dX8_commute_27 rfl (nar_b (by first | decide | omega)) ⟨⟨0, rfl, by omega⟩, ⟨nI (tW 1 0), ⟨h19_2, h20_2, h21_2, h22_2, hbb_2, hbl_2, hb3_2⟩, hF2⟩⟩
  · refine J_if_eqN (pc := 5) (tgt := 15) dX8_commute_5 (by decide) (by decide) (fun h => absurd h (by decide)) (fun _ => ?_)
    refine J_iload_n (pc := 8) dX8_commute_8 rfl rfl ?_
    refine J_callS0 (pc := 9) (M := mX8_commute) (as := [.int c]) dX8_commute_9 fw_X8_isCell fl_X8_108 fs_X8_isCell rfl (c_X8_isCell hs (d := d - 1) (by omega) (w := w) c (kc := 0) (ks := 0)) (by omega) (st := [.ref 19]) (Nat.le_of_ble_eq_true rfl) rfl (kr_P fun v3 hv3 => ?_) kx_I
    rcases hv3 with ⟨rfl, hk3_0⟩ | ⟨q3, rfl, hk3_0, rfl⟩
    · refine J_if_neN (pc := 12) (tgt := 19) dX8_commute_12 (by decide) (by decide) (fun h => absurd h (by decide)) (fun _ => ?_)
      refine J_iconst (pc := 15) (v := nI 1) dX8_commute_15 (by decide) ?_
      refine J_goto (pc := 16) (tgt := 20) dX8_commute_16 (by decide) ?_
      refine J_callV0 (pc := 20) (M := mX8_commute) (as := [.int (nI 1)]) dX8_commute_20 fw_X8_isThrown_ fl_X8_105 fm_X8_isThrown_ fe_X8_isThrown_ h19 (by decide) rfl rfl rfl (c_X8_isThrown_ hs (d := d - 1) (by omega) (w := w) (n := n) (mv := mv) (rw := rw) (nx := nx) (b := b) (bt := bt) (kn := kn) (en := en) (dn := dn) (rf := rf) (kk := kk) (th := th) ⟨h19, h20, h21, h22, hbb, hbl, hb3⟩ hn1 hn2 gm gr gx 1 (by first | assumption | omega) (kc := 0) (ks := 0)) (by omega) (st := []) (Nat.le_of_ble_eq_true rfl) rfl (kr_I fun v4 w4 hv4 hw4 => ?_) kx_I
      obtain ⟨hR4, hFc4⟩ := hw4
      obtain ⟨h19_4, h20_4, h21_4, h22_4, hbb_4, hbl_4, hb3_4⟩ := hR4
      have hF4 := hF.tr hFc4
      subst hv4
      show J X mX8_commute d kc ks 23 [some (.ref 19), some (.int (nI q1)), some (.int c), none] [.int (nI 1)] w4 _
      refine J_if_eqN (pc := 23) (tgt := 28) dX8_commute_23 (by decide) (by decide) (fun h => absurd h (by decide)) (fun _ => ?_)
      refine J_iconst (pc := 26) (v := nI 0) dX8_commute_26 (by decide) ?_
      exact J_zret (pc := 27) dX8_commute_27 rfl (nar_b (by first | decide | omega)) ⟨⟨0, rfl, by omega⟩, ⟨nI (tW 1 0), ⟨h19_4, h20_4, h21_4, h22_4, hbb_4, hbl_4, hb3_4⟩, hF4⟩⟩
    · refine J_if_neN (pc := 12) (tgt := 19) dX8_commute_12 (by decide) (by decide) (fun _ => ?_) (fun h => absurd h (by decide))
      refine J_iconst (pc := 19) (v := nI 0) dX8_commute_19 (by decide) ?_
      refine J_callV0 (pc := 20) (M := mX8_commute) (as := [.int (nI 0)]) dX8_commute_20 fw_X8_isThrown_ fl_X8_105 fm_X8_isThrown_ fe_X8_isThrown_ h19 (by decide) rfl rfl rfl (c_X8_isThrown_ hs (d := d - 1) (by omega) (w := w) (n := n) (mv := mv) (rw := rw) (nx := nx) (b := b) (bt := bt) (kn := kn) (en := en) (dn := dn) (rf := rf) (kk := kk) (th := th) ⟨h19, h20, h21, h22, hbb, hbl, hb3⟩ hn1 hn2 gm gr gx 0 (by first | assumption | omega) (kc := 0) (ks := 0)) (by omega) (st := []) (Nat.le_of_ble_eq_true rfl) rfl (kr_I fun v5 w5 hv5 hw5 => ?_) kx_I
      obtain ⟨hR5, hFc5⟩ := hw5
      obtain ⟨h19_5, h20_5, h21_5, h22_5, hbb_5, hbl_5, hb3_5⟩ := hR5
      have hF5 := hF.tr hFc5
      subst hv5
      show J X mX8_commute d kc ks 23 [some (.ref 19), some (.int (nI q1)), some (.int (nI q3)), none] [.int (nI 0)] w5 _
      refine J_if_eqN (pc := 23) (tgt := 28) dX8_commute_23 (by decide) (by decide) (fun _ => ?_) (fun h => absurd h (by decide))
      refine J_iconst (pc := 28) (v := nI 0) dX8_commute_28 (by decide) ?_
      refine J_istore_n (pc := 29) dX8_commute_29 rfl (by decide) rfl ?_
      show J X mX8_commute d kc ks 30 [some (.ref 19), some (.int (nI q1)), some (.int (nI q3)), some (.int (nI 0))] [] w5 _
      have lp30_6 : ∀ (fuel : Nat) (c3 : Nat), (c3 ≤ n) → (n - c3 < fuel) → J X mX8_commute d kc ks 30 [some (.ref 19), some (.int (nI q1)), some (.int (nI q3)), some (.int (nI c3))] [] w5 (pI (fun v => ∃ k : Nat, v = nI k ∧ k < 2) (fun w' => ∃ (th' : Int32), RM n mv rw nx b bt kn en dn rf kk th' w' ∧ FR b b w w')) := by
        intro fuellp30_6
        induction fuellp30_6 with
        | zero => intros; omega
        | succ fuellp30_6 ihlp30_6 =>
          intro c3 hv30_0 hf7
          refine J_iload_n (pc := 30) dX8_commute_30 rfl rfl ?_
          refine J_aload_n (pc := 31) dX8_commute_31 rfl rfl rfl ?_
          refine J_get (pc := 32) (k := 0) dX8_commute_32 kC9 (by decide) ff_X8_7 h19_5 rfl ?_
          refine J_icmp_geN (pc := 35) (tgt := 71) dX8_commute_35 (by decide) (by omega) (by omega) (fun ht8 => ?_) (fun hf9 => ?_)
          · refine J_iconst (pc := 71) (v := nI 1) dX8_commute_71 (by decide) ?_
            exact J_zret (pc := 72) dX8_commute_72 rfl (nar_b (by first | decide | omega)) ⟨⟨1, rfl, by omega⟩, ⟨nI (tW 0 0), ⟨h19_5, h20_5, h21_5, h22_5, hbb_5, hbl_5, hb3_5⟩, hF5⟩⟩
          · refine J_aload_n (pc := 38) dX8_commute_38 rfl rfl rfl ?_
            refine J_iload_n (pc := 39) dX8_commute_39 rfl rfl ?_
            refine J_aload_n (pc := 40) dX8_commute_40 rfl rfl rfl ?_
            refine J_iload_n (pc := 41) dX8_commute_41 rfl rfl ?_
            refine J_iload_n (pc := 42) dX8_commute_42 rfl rfl ?_
            refine J_callV0 (pc := 43) (M := mX8_commute) (as := [.int (nI q1), .int (nI c3)]) dX8_commute_43 fw_X8_at fl_X8_82 fm_X8_at fe_X8_at h19_5 (by decide) rfl rfl rfl (c_X8_at hs (d := d - 1) (by omega) (w := w5) (n := n) (mv := mv) (rw := rw) (nx := nx) (b := b) (bt := bt) (kn := kn) (en := en) (dn := dn) (rf := rf) (kk := kk) (th := nI (tW 0 0)) ⟨h19_5, h20_5, h21_5, h22_5, hbb_5, hbl_5, hb3_5⟩ hn1 hn2 gm gr gx q1 c3 (by first | assumption | omega) (by first | assumption | omega) (kc := 0) (ks := 0)) (by omega) (st := [.int (nI q3), .ref 19]) (Nat.le_of_ble_eq_true rfl) rfl (kr_P fun v10 hv10 => ?_) kx_I
            subst hv10
            have hq11 := gm (q1 * 7 + c3)
            refine J_callV0 (pc := 46) (M := mX8_commute) (as := [.int (nI q3), .int (nI (mv (q1 * 7 + c3)))]) dX8_commute_46 fw_X8_at fl_X8_82 fm_X8_at fe_X8_at h19_5 (by decide) rfl rfl rfl (c_X8_at hs (d := d - 1) (by omega) (w := w5) (n := n) (mv := mv) (rw := rw) (nx := nx) (b := b) (bt := bt) (kn := kn) (en := en) (dn := dn) (rf := rf) (kk := kk) (th := nI (tW 0 0)) ⟨h19_5, h20_5, h21_5, h22_5, hbb_5, hbl_5, hb3_5⟩ hn1 hn2 gm gr gx q3 (mv (q1 * 7 + c3)) (by first | assumption | omega) (by first | assumption | omega) (kc := 0) (ks := 0)) (by omega) (st := []) (Nat.le_of_ble_eq_true rfl) rfl (kr_P fun v12 hv12 => ?_) kx_I
            subst hv12
            have hq13 := gm (q3 * 7 + (mv (q1 * 7 + c3)))
            refine J_aload_n (pc := 49) dX8_commute_49 rfl rfl rfl ?_
            refine J_iload_n (pc := 50) dX8_commute_50 rfl rfl ?_
            refine J_aload_n (pc := 51) dX8_commute_51 rfl rfl rfl ?_
            refine J_iload_n (pc := 52) dX8_commute_52 rfl rfl ?_
            refine J_iload_n (pc := 53) dX8_commute_53 rfl rfl ?_
            refine J_callV0 (pc := 54) (M := mX8_commute) (as := [.int (nI q3), .int (nI c3)]) dX8_commute_54 fw_X8_at fl_X8_82 fm_X8_at fe_X8_at h19_5 (by decide) rfl rfl rfl (c_X8_at hs (d := d - 1) (by omega) (w := w5) (n := n) (mv := mv) (rw := rw) (nx := nx) (b := b) (bt := bt) (kn := kn) (en := en) (dn := dn) (rf := rf) (kk := kk) (th := nI (tW 0 0)) ⟨h19_5, h20_5, h21_5, h22_5, hbb_5, hbl_5, hb3_5⟩ hn1 hn2 gm gr gx q3 c3 (by first | assumption | omega) (by first | assumption | omega) (kc := 0) (ks := 0)) (by omega) (st := [.int (nI q1), .ref 19, .int (nI (mv (q3 * 7 + (mv (q1 * 7 + c3)))))]) (Nat.le_of_ble_eq_true rfl) rfl (kr_P fun v14 hv14 => ?_) kx_I
            subst hv14
            have hq15 := gm (q3 * 7 + c3)
            refine J_callV0 (pc := 57) (M := mX8_commute) (as := [.int (nI q1), .int (nI (mv (q3 * 7 + c3)))]) dX8_commute_57 fw_X8_at fl_X8_82 fm_X8_at fe_X8_at h19_5 (by decide) rfl rfl rfl (c_X8_at hs (d := d - 1) (by omega) (w := w5) (n := n) (mv := mv) (rw := rw) (nx := nx) (b := b) (bt := bt) (kn := kn) (en := en) (dn := dn) (rf := rf) (kk := kk) (th := nI (tW 0 0)) ⟨h19_5, h20_5, h21_5, h22_5, hbb_5, hbl_5, hb3_5⟩ hn1 hn2 gm gr gx q1 (mv (q3 * 7 + c3)) (by first | assumption | omega) (by first | assumption | omega) (kc := 0) (ks := 0)) (by omega) (st := [.int (nI (mv (q3 * 7 + (mv (q1 * 7 + c3)))))]) (Nat.le_of_ble_eq_true rfl) rfl (kr_P fun v16 hv16 => ?_) kx_I
            subst hv16
            have hq17 := gm (q1 * 7 + (mv (q3 * 7 + c3)))
            refine J_icmp_eqN (pc := 60) (tgt := 65) dX8_commute_60 (by decide) (by omega) (by omega) (fun ht18 => ?_) (fun hf19 => ?_)
            · refine J_iincN (pc := 65) (b := 1) dX8_commute_65 rfl (by decide) (by decide) rfl ?_
              show J X mX8_commute d kc ks 68 [some (.ref 19), some (.int (nI q1)), some (.int (nI q3)), some (.int (nI (c3 + 1)))] [] w5 _
              refine J_goto (pc := 68) (tgt := 30) dX8_commute_68 (by decide) ?_
              exact J_sub (L' := [some (.ref 19), some (.int (nI q1)), some (.int (nI q3)), some (.int (nI (c3 + 1)))]) ⟨rfl, ⟨rfl, ⟨rfl, ⟨rfl, trivial⟩⟩⟩⟩ (ihlp30_6 (c3 + 1) (by first | assumption | omega) (by omega))
            · refine J_iconst (pc := 63) (v := nI 0) dX8_commute_63 (by decide) ?_
              exact J_zret (pc := 64) dX8_commute_64 rfl (nar_b (by first | decide | omega)) ⟨⟨0, rfl, by omega⟩, ⟨nI (tW 0 0), ⟨h19_5, h20_5, h21_5, h22_5, hbb_5, hbl_5, hb3_5⟩, hF5⟩⟩
      exact J_sub (L' := [some (.ref 19), some (.int (nI q1)), some (.int (nI q3)), some (.int (nI 0))]) ⟨rfl, ⟨rfl, ⟨rfl, ⟨rfl, trivial⟩⟩⟩⟩ (lp30_6 _ 0 (by first | assumption | omega) (Nat.lt_succ_self _))
