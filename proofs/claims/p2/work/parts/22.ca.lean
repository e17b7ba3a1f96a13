/-! contracts of the reference: rspec3 -/
set_option maxRecDepth 100000 in
set_option maxHeartbeats 4000000 in
theorem c_X8_stillRow {X : jX} (hs : X.1.stackTraces = false) {d : Nat} (hd : 0 ≤ d) {n : Nat} {mv rw nx : Nat → Nat} {b : Nat} {bt : List Int32} {kn en dn rf kk th : Int32} {w : List jC} (hR : RM n mv rw nx b bt kn en dn rf kk th w) (hn1 : 2 ≤ n) (hn2 : n ≤ 7) (gm : ∀ i, mv i < 7) (gr : ∀ i, rw i < 7) (gx : ∀ i, nx i < 7) {kc ks : Nat} : jMet X mX8_stillRow d kc ks [.ref 19] w (pV (fun w' => ∃ (rw' : Nat → Nat), RM n mv rw' nx b bt kn en dn rf kk th w' ∧ FR b b w w' ∧ (∀ i, rw' i < 7) ∧ ∀ p, p < n → rw' p = p)) := by
  refine jMet_of hs (by decide +kernel) (Nat.le_of_ble_eq_true rfl) (L := [some (.ref 19), none]) rfl ?_
  have hfc := fc_7 hn2
  have hfp := fc_pos n
  obtain ⟨h19, h20, h21, h22, hbb, hbl, hb3⟩ := hR
  have hF : FR b b w w := FR.rf
  refine J_iconst (pc := 0) (v := nI 0) dX8_stillRow_0 (by decide) ?_
  refine J_istore_n (pc := 1) dX8_stillRow_1 rfl (by decide) rfl ?_
  show J X mX8_stillRow d kc ks 2 [some (.ref 19), some (.int (nI 0))] [] w _
  have lp2_1 : ∀ (fuel : Nat) (w2 : List jC) (rw_2 : Nat → Nat) (c1 : Nat), (RM n mv rw_2 nx b bt kn en dn rf kk th w2) → (FR b b w w2) → (∀ i, rw_2 i < 7) → (∀ p, p < c1 → rw_2 p = p) → (c1 ≤ n) → (n - c1 < fuel) → J X mX8_stillRow d kc ks 2 [some (.ref 19), some (.int (nI c1))] [] w2 (pV (fun w' => ∃ (rw' : Nat → Nat), RM n mv rw' nx b bt kn en dn rf kk th w' ∧ FR b b w w' ∧ (∀ i, rw' i < 7) ∧ ∀ p, p < n → rw' p = p)) := by
    intro fuellp2_1
    induction fuellp2_1 with
    | zero => intros; omega
    | succ fuellp2_1 ihlp2_1 =>
      intro w2 rw_2 c1 hR3 hF4 gr5 hv2_0 hv2_1 hf6
      obtain ⟨h19_7, h20_7, h21_7, h22_7, hb_7, hbl_7, hb3_7⟩ := hR3
      refine J_iload_n (pc := 2) dX8_stillRow_2 rfl rfl ?_
      refine J_aload_n (pc := 3) dX8_stillRow_3 rfl rfl rfl ?_
      refine J_get (pc := 4) (k := 0) dX8_stillRow_4 kC9 (by decide) ff_X8_7 h19_7 rfl ?_
      refine J_icmp_geN (pc := 7) (tgt := 23) dX8_stillRow_7 (by decide) (by omega) (by omega) (fun ht8 => ?_) (fun hf9 => ?_)
      · exact J_vret (pc := 23) dX8_stillRow_23 rfl (⟨rw_2, ⟨h19_7, h20_7, h21_7, h22_7, hb_7, hbl_7, hb3_7⟩, hF4, gr5, (by intro p hp; exact hv2_0 p (by omega))⟩)
      · refine J_aload_n (pc := 10) dX8_stillRow_10 rfl rfl rfl ?_
        refine J_get (pc := 11) (k := 2) dX8_stillRow_11 kC9 (by decide) ff_X8_17 h19_7 rfl ?_
        refine J_iload_n (pc := 14) dX8_stillRow_14 rfl rfl ?_
        refine J_iload_n (pc := 15) dX8_stillRow_15 rfl rfl ?_
        refine J_iastF (pc := 16) dX8_stillRow_16 h21_7 (by omega) (by decide) (fun w10 hln10 hc10 hne10 => ?_)
        have hg10 : ∀ i, (up rw_2 c1 c1) i < 7 := up_b gr5 (by omega)
        have h19_10 := (hne10 19 (by omega)).trans h19_7
        have h20_10 := (hne10 20 (by omega)).trans h20_7
        have h22_10 := (hne10 22 (by omega)).trans h22_7
        have hb_10 := (hne10 _ (by omega)).trans hb_7
        have hF10 := hF4.st hln10 hne10 (Or.inl (by decide))
        refine J_iincN (pc := 17) (b := 1) dX8_stillRow_17 rfl (by decide) (by decide) rfl ?_
        show J X mX8_stillRow d kc ks 20 [some (.ref 19), some (.int (nI (c1 + 1)))] [] w10 _
        refine J_goto (pc := 20) (tgt := 2) dX8_stillRow_20 (by decide) ?_
        exact J_sub (L' := [some (.ref 19), some (.int (nI (c1 + 1)))]) ⟨rfl, ⟨rfl, trivial⟩⟩ (ihlp2_1 w10 (up rw_2 c1 c1) (c1 + 1) ⟨h19_10, h20_10, hc10, h22_10, hb_10, hbl_7, hb3_7⟩ hF10 hg10 (by intro p hp; by_cases e : p = c1; (subst e; exact up_s _ _ _); (rw [up_n e]; exact hv2_0 p (by omega))) (by first | assumption | omega) (by omega))
  exact J_sub (L' := [some (.ref 19), some (.int (nI 0))]) ⟨rfl, ⟨rfl, trivial⟩⟩ (lp2_1 _ w rw 0 ⟨h19, h20, h21, h22, hbb, hbl, hb3⟩ hF gr (by intro p hp; omega) (by first | assumption | omega) (Nat.lt_succ_self _))
set_option maxRecDepth 100000 in
set_option maxHeartbeats 4000000 in
theorem c_X8_behind {X : jX} (hs : X.1.stackTraces = false) {d : Nat} (hd : 2 ≤ d) {n : Nat} {mv rw nx : Nat → Nat} {b : Nat} {bt : List Int32} {kn en dn rf kk th : Int32} {w : List jC} (hR : RM n mv rw nx b bt kn en dn rf kk th w) (hn1 : 2 ≤ n) (hn2 : n ≤ 7) (gm : ∀ i, mv i < 7) (gr : ∀ i, rw i < 7) (gx : ∀ i, nx i < 7) (a : Nat) (hy0 : a < 6) (hy1 : PM n mv) (hy2 : Pn n rw) {kc ks : Nat} : jMet X mX8_behind d kc ks [.ref 19, .int (nI a), .ref 21] w (pI (fun _ => True) (fun w' => ∃ (mv' : Nat → Nat), ∃ (nx' : Nat → Nat), RM n mv' rw nx' b bt (-1) en (dn + nI 1) rf kk th w' ∧ FR b b w w' ∧ (∀ i, mv' i < 7) ∧ (∀ i, nx' i < 7) ∧ PM n mv')) := by
  refine jMet_of hs (by decide +kernel) (Nat.le_of_ble_eq_true rfl) (L := [some (.ref 19), some (.int (nI a)), some (.ref 21), none]) rfl ?_
  have hfc := fc_7 hn2
  have hfp := fc_pos n
  obtain ⟨h19, h20, h21, h22, hbb, hbl, hb3⟩ := hR
  have hF : FR b b w w := FR.rf
  refine J_iconst (pc := 0) (v := nI 0) dX8_behind_0 (by decide) ?_
  refine J_istore_n (pc := 1) dX8_behind_1 rfl (by decide) rfl ?_
  show J X mX8_behind d kc ks 2 [some (.ref 19), some (.int (nI a)), some (.ref 21), some (.int (nI 0))] [] w _
  have lp2_1 : ∀ (fuel : Nat) (w2 : List jC) (nx_2 : Nat → Nat) (c3 : Nat), (RM n mv rw nx_2 b bt kn en dn rf kk th w2) → (FR b b w w2) → (∀ i, nx_2 i < 7) → (∀ p, p < c3 → nx_2 p = rw (mv (a * 7 + p))) → (c3 ≤ n) → (n - c3 < fuel) → J X mX8_behind d kc ks 2 [some (.ref 19), some (.int (nI a)), some (.ref 21), some (.int (nI c3))] [] w2 (pI (fun _ => True) (fun w' => ∃ (mv' : Nat → Nat), ∃ (nx' : Nat → Nat), RM n mv' rw nx' b bt (-1) en (dn + nI 1) rf kk th w' ∧ FR b b w w' ∧ (∀ i, mv' i < 7) ∧ (∀ i, nx' i < 7) ∧ PM n mv')) := by
    intro fuellp2_1
    induction fuellp2_1 with
    | zero => intros; omega
    | succ fuellp2_1 ihlp2_1 =>
      intro w2 nx_2 c3 hR3 hF4 gx5 hv2_0 hv2_1 hf6
      obtain ⟨h19_7, h20_7, h21_7, h22_7, hb_7, hbl_7, hb3_7⟩ := hR3
      refine J_iload_n (pc := 2) dX8_behind_2 rfl rfl ?_
      refine J_aload_n (pc := 3) dX8_behind_3 rfl rfl rfl ?_
      refine J_get (pc := 4) (k := 0) dX8_behind_4 kC9 (by decide) ff_X8_7 h19_7 rfl ?_
      refine J_icmp_geN (pc := 7) (tgt := 30) dX8_behind_7 (by decide) (by omega) (by omega) (fun ht8 => ?_) (fun hf9 => ?_)
      · have hPx := (Pn.comp (hy1 a hy0) hy2).congr (g := nx_2) (fun p hp => hv2_0 p (by omega))
        refine J_aload_n (pc := 30) dX8_behind_30 rfl rfl rfl ?_
        refine J_iload_n (pc := 31) dX8_behind_31 rfl rfl ?_
        refine J_aload_n (pc := 32) dX8_behind_32 rfl rfl rfl ?_
        refine J_get (pc := 33) (k := 3) dX8_behind_33 kC9 (by decide) ff_X8_20 h19_7 rfl ?_
        refine J_callV0 (pc := 36) (M := mX8_behind) (as := [.int (nI a), .ref 22]) dX8_behind_36 fw_X8_get fl_X8_111 fm_X8_get fe_X8_get h19_7 (by decide) rfl rfl rfl (c_X8_get_at22 hs (d := d - 1) (by omega) (w := w2) (n := n) (mv := mv) (rw := rw) (nx := nx_2) (b := b) (bt := bt) (kn := kn) (en := en) (dn := dn) (rf := rf) (kk := kk) (th := th) ⟨h19_7, h20_7, h21_7, h22_7, hb_7, hbl_7, hb3_7⟩ hn1 hn2 gm gr gx5 a (by first | assumption | omega) (kc := 0) (ks := 0)) (by omega) (st := []) (Nat.le_of_ble_eq_true rfl) rfl (kr_I fun v10 w10 hv10 hw10 => ?_) kx_I
        obtain ⟨mv10, hR10, hFc10, hgmv10, hp10_0⟩ := hw10
        obtain ⟨h19_10, h20_10, h21_10, h22_10, hbb_10, hbl_10, hb3_10⟩ := hR10
        have hF10 := hF4.tr hFc10
        subst hv10
        refine J_pop (pc := 39) dX8_behind_39 rfl ?_
        refine J_aload_n (pc := 40) dX8_behind_40 rfl rfl rfl ?_
        refine J_aload_n (pc := 41) dX8_behind_41 rfl rfl rfl ?_
        refine J_get (pc := 42) (k := 1) dX8_behind_42 kC9 (by decide) ff_X8_13 h19_10 rfl ?_
        refine J_iload_n (pc := 45) dX8_behind_45 rfl rfl ?_
        refine J_bipush (pc := 46) (v := nI 7) dX8_behind_46 (by decide) ?_
        refine J_imulN (pc := 48) dX8_behind_48 ?_
        refine J_callV0 (pc := 49) (M := mX8_behind) (as := [.ref 20, .int (nI (a * 7))]) dX8_behind_49 fw_X8_signOf fl_X8_115 fm_X8_signOf fe_X8_signOf h19_10 (by decide) rfl rfl rfl (c_X8_signOf_at20 hs (d := d - 1) (by omega) (w := w10) (n := n) (mv := mv10) (rw := rw) (nx := nx_2) (b := b) (bt := bt) (kn := (-1)) (en := en) (dn := (dn + nI 1)) (rf := rf) (kk := kk) (th := th) ⟨h19_10, h20_10, h21_10, h22_10, hbb_10, hbl_10, hb3_10⟩ hn1 hn2 hgmv10 gr gx5 (a * 7) (by first | assumption | omega) (kc := 0) (ks := 0)) (by omega) (st := []) (Nat.le_of_ble_eq_true rfl) rfl (kr_P fun v11 hv11 => ?_) kx_I
        exact J_iret (pc := 52) dX8_behind_52 rfl ⟨trivial, ⟨mv10, nx_2, ⟨h19_10, h20_10, h21_10, h22_10, hbb_10, hbl_10, hb3_10⟩, hF10, hgmv10, gx5, (by exact PM_st hn2 (by assumption) hy1 hPx)⟩⟩
      · refine J_aload_n (pc := 10) dX8_behind_10 rfl rfl rfl ?_
        refine J_get (pc := 11) (k := 3) dX8_behind_11 kC9 (by decide) ff_X8_20 h19_7 rfl ?_
        refine J_iload_n (pc := 14) dX8_behind_14 rfl rfl ?_
        refine J_aload_n (pc := 15) dX8_behind_15 rfl rfl rfl ?_
        refine J_aload_n (pc := 16) dX8_behind_16 rfl rfl rfl ?_
        refine J_iload_n (pc := 17) dX8_behind_17 rfl rfl ?_
        refine J_iload_n (pc := 18) dX8_behind_18 rfl rfl ?_
        refine J_callV0 (pc := 19) (M := mX8_behind) (as := [.int (nI a), .int (nI c3)]) dX8_behind_19 fw_X8_at fl_X8_82 fm_X8_at fe_X8_at h19_7 (by decide) rfl rfl rfl (c_X8_at hs (d := d - 1) (by omega) (w := w2) (n := n) (mv := mv) (rw := rw) (nx := nx_2) (b := b) (bt := bt) (kn := kn) (en := en) (dn := dn) (rf := rf) (kk := kk) (th := th) ⟨h19_7, h20_7, h21_7, h22_7, hb_7, hbl_7, hb3_7⟩ hn1 hn2 gm gr gx5 a c3 (by first | assumption | omega) (by first | assumption | omega) (kc := 0) (ks := 0)) (by omega) (st := [.ref 21, .int (nI c3), .ref 22]) (Nat.le_of_ble_eq_true rfl) rfl (kr_P fun v12 hv12 => ?_) kx_I
        subst hv12
        have hq13 := gm (a * 7 + c3)
        refine J_ialdF (pc := 22) dX8_behind_22 h21_7 (by omega) (by decide) ?_
        have hq14 := gr (mv (a * 7 + c3))
        refine J_iastF (pc := 23) dX8_behind_23 h22_7 (by omega) (by decide) (fun w15 hln15 hc15 hne15 => ?_)
        have hg15 : ∀ i, (up nx_2 c3 (rw (mv (a * 7 + c3)))) i < 7 := up_b gx5 (by omega)
        have h19_15 := (hne15 19 (by omega)).trans h19_7
        have h20_15 := (hne15 20 (by omega)).trans h20_7
        have h21_15 := (hne15 21 (by omega)).trans h21_7
        have hb_15 := (hne15 _ (by omega)).trans hb_7
        have hF15 := hF4.st hln15 hne15 (Or.inl (by decide))
        refine J_iincN (pc := 24) (b := 1) dX8_behind_24 rfl (by decide) (by decide) rfl ?_
        show J X mX8_behind d kc ks 27 [some (.ref 19), some (.int (nI a)), some (.ref 21), some (.int (nI (c3 + 1)))] [] w15 _
        refine J_goto (pc := 27) (tgt := 2) dX8_behind_27 (by decide) ?_
        exact J_sub (L' := [some (.ref 19), some (.int (nI a)), some (.ref 21), some (.int (nI (c3 + 1)))]) ⟨rfl, ⟨rfl, ⟨rfl, ⟨rfl, trivial⟩⟩⟩⟩ (ihlp2_1 w15 (up nx_2 c3 (rw (mv (a * 7 + c3)))) (c3 + 1) ⟨h19_15, h20_15, h21_15, hc15, hb_15, hbl_7, hb3_7⟩ hF15 hg15 (by intro p hp; by_cases e : p = c3; (subst e; exact up_s _ _ _); (rw [up_n e]; exact hv2_0 p (by omega))) (by first | assumption | omega) (by omega))
  exact J_sub (L' := [some (.ref 19), some (.int (nI a)), some (.ref 21), some (.int (nI 0))]) ⟨rfl, ⟨rfl, ⟨rfl, ⟨rfl, trivial⟩⟩⟩⟩ (lp2_1 _ w nx 0 ⟨h19, h20, h21, h22, hbb, hbl, hb3⟩ hF gx (by intro p hp; omega) (by first | assumption | omega) (Nat.lt_succ_self _))
set_option maxRecDepth 100000 in
set_option maxHeartbeats 4000000 in
theorem c_X8_points {X : jX} (hs : X.1.stackTraces = false) {d : Nat} (hd : 2 ≤ d) {n : Nat} {mv rw nx : Nat → Nat} {b : Nat} {bt : List Int32} {kn en dn rf kk th : Int32} {w : List jC} (hR : RM n mv rw nx b bt kn en dn rf kk th w) (hn1 : 2 ≤ n) (hn2 : n ≤ 7) (gm : ∀ i, mv i < 7) (gr : ∀ i, rw i < 7) (gx : ∀ i, nx i < 7) (a : Int32) (hy0 : PM n mv) (hy1 : KB n kn bt) {kc ks : Nat} : jMet X mX8_points d kc ks [.ref 19, .int a] w (pI (fun _ => True) (fun w' => ∃ (n' : Nat), ∃ (mv' : Nat → Nat), ∃ (kn' : Int32), ∃ (dn' : Int32), ∃ (th' : Int32), RM n' mv' rw nx b bt kn' en dn' rf kk th' w' ∧ FR b b w w' ∧ (∀ i, mv' i < 7) ∧ 2 ≤ n' ∧ n' ≤ 7 ∧ PM n' mv' ∧ KB n' kn' bt)) := by
  refine jMet_of hs (by decide +kernel) (Nat.le_of_ble_eq_true rfl) (L := [some (.ref 19), some (.int a), none]) rfl ?_
  have hfc := fc_7 hn2
  have hfp := fc_pos n
  obtain ⟨h19, h20, h21, h22, hbb, hbl, hb3⟩ := hR
  have hF : FR b b w w := FR.rf
  refine J_aload_n (pc := 0) dX8_points_0 rfl rfl rfl ?_
  refine J_iload_n (pc := 1) dX8_points_1 rfl rfl ?_
  refine J_iconst (pc := 2) (v := nI 2) dX8_points_2 (by decide) ?_
  refine J_icmp_lt (pc := 3) (tgt := 12) dX8_points_3 (by decide) (fun ht1 => ?_) (fun hf2 => ?_)
  · refine J_iconst (pc := 12) (v := nI 1) dX8_points_12 (by decide) ?_
    refine J_goto (pc := 13) (tgt := 17) dX8_points_13 (by decide) ?_
    refine J_callV0 (pc := 17) (M := mX8_points) (as := [.int (nI 1)]) dX8_points_17 fw_X8_isThrown_ fl_X8_105 fm_X8_isThrown_ fe_X8_isThrown_ h19 (by decide) rfl rfl rfl (c_X8_isThrown_ hs (d := d - 1) (by omega) (w := w) (n := n) (mv := mv) (rw := rw) (nx := nx) (b := b) (bt := bt) (kn := kn) (en := en) (dn := dn) (rf := rf) (kk := kk) (th := th) ⟨h19, h20, h21, h22, hbb, hbl, hb3⟩ hn1 hn2 gm gr gx 1 (by first | assumption | omega) (kc := 0) (ks := 0)) (by omega) (st := []) (Nat.le_of_ble_eq_true rfl) rfl (kr_I fun v3 w3 hv3 hw3 => ?_) kx_I
    obtain ⟨hR3, hFc3⟩ := hw3
    obtain ⟨h19_3, h20_3, h21_3, h22_3, hbb_3, hbl_3, hb3_3⟩ := hR3
    have hF3 := hF.tr hFc3
    subst hv3
    show J X mX8_points d kc ks 20 [some (.ref 19), some (.int a), none] [.int (nI 1)] w3 _
    refine J_if_eqN (pc := 20) (tgt := 25) dX8_points_20 (by decide) (by decide) (fun h => absurd h (by decide)) (fun _ => ?_)
    refine J_iconst (pc := 23) (v := nI 0) dX8_points_23 (by decide) ?_
    exact J_iret (pc := 24) dX8_points_24 rfl ⟨trivial, ⟨n, mv, kn, dn, nI (tW 1 0), ⟨h19_3, h20_3, h21_3, h22_3, hbb_3, hbl_3, hb3_3⟩, hF3, gm, (by omega), (by omega), (by first | assumption | exact PM_id (by omega) (by assumption)), (by first | assumption | exact Or.inl rfl)⟩⟩
  · refine J_iload_n (pc := 6) dX8_points_6 rfl rfl ?_
    refine J_bipush (pc := 7) (v := nI 7) dX8_points_7 (by decide) ?_
    refine J_icmp_le (pc := 9) (tgt := 16) dX8_points_9 (by decide) (fun ht4 => ?_) (fun hf5 => ?_)
    · refine J_iconst (pc := 16) (v := nI 0) dX8_points_16 (by decide) ?_
      refine J_callV0 (pc := 17) (M := mX8_points) (as := [.int (nI 0)]) dX8_points_17 fw_X8_isThrown_ fl_X8_105 fm_X8_isThrown_ fe_X8_isThrown_ h19 (by decide) rfl rfl rfl (c_X8_isThrown_ hs (d := d - 1) (by omega) (w := w) (n := n) (mv := mv) (rw := rw) (nx := nx) (b := b) (bt := bt) (kn := kn) (en := en) (dn := dn) (rf := rf) (kk := kk) (th := th) ⟨h19, h20, h21, h22, hbb, hbl, hb3⟩ hn1 hn2 gm gr gx 0 (by first | assumption | omega) (kc := 0) (ks := 0)) (by omega) (st := []) (Nat.le_of_ble_eq_true rfl) rfl (kr_I fun v6 w6 hv6 hw6 => ?_) kx_I
      obtain ⟨hR6, hFc6⟩ := hw6
      obtain ⟨h19_6, h20_6, h21_6, h22_6, hbb_6, hbl_6, hb3_6⟩ := hR6
      have hF6 := hF.tr hFc6
      subst hv6
      show J X mX8_points d kc ks 20 [some (.ref 19), some (.int a), none] [.int (nI 0)] w6 _
      refine J_if_eqN (pc := 20) (tgt := 25) dX8_points_20 (by decide) (by decide) (fun _ => ?_) (fun h => absurd h (by decide))
      obtain ⟨k7, hk7a, hk7b, rfl⟩ := nI_btw (Int32.not_lt.mp (by assumption)) (by assumption) (by omega) (by omega)
      refine J_aload_n (pc := 25) dX8_points_25 rfl rfl rfl ?_
      refine J_get (pc := 26) (k := 0) dX8_points_26 kC9 (by decide) ff_X8_7 h19_6 rfl ?_
      refine J_istore_n (pc := 29) dX8_points_29 rfl (by decide) rfl ?_
      show J X mX8_points d kc ks 30 [some (.ref 19), some (.int (nI k7)), some (.int (nI n))] [] w6 _
      refine J_aload_n (pc := 30) dX8_points_30 rfl rfl rfl ?_
      refine J_iload_n (pc := 31) dX8_points_31 rfl rfl ?_
      refine J_putW (pc := 32) (k := 0) dX8_points_32 kC9 (by decide) ff_X8_7 (Or.inl rfl) ⟨rfl, rfl⟩ h19_6 (by show 0 < 11; decide) (fun w8 hln8 hw8 hne8 => ?_)
      have h19_8 : w8[19]? = some (.inr (9, [.int (nI k7), .ref 20, .ref 21, .ref 22, .ref b, .int kn, .int en, .int dn, .int rf, .int kk, .int (nI (tW 0 0))])) := hw8
      have h20_8 := (hne8 20 (by omega)).trans h20_6
      have h21_8 := (hne8 21 (by omega)).trans h21_6
      have h22_8 := (hne8 22 (by omega)).trans h22_6
      have hb_8 := (hne8 _ (by omega)).trans hbb_6
      have hF8 := hF6.st hln8 hne8 (Or.inl (by decide))
      refine J_aload_n (pc := 35) dX8_points_35 rfl rfl rfl ?_
      refine J_callV0 (pc := 36) (M := mX8_points) (as := []) dX8_points_36 fw_X8_still fl_X8_29 fm_X8_still fe_X8_still h19_8 (by decide) rfl rfl rfl (c_X8_still hs (d := d - 1) (by omega) (w := w8) (n := k7) (mv := mv) (rw := rw) (nx := nx) (b := b) (bt := bt) (kn := kn) (en := en) (dn := dn) (rf := rf) (kk := kk) (th := nI (tW 0 0)) ⟨h19_8, h20_8, h21_8, h22_8, hb_8, hbl_6, hb3_6⟩ (by omega) (by omega) gm gr gx  (kc := 0) (ks := 0)) (by omega) (st := []) (Nat.le_of_ble_eq_true rfl) rfl (kr_V fun w9 hw9 => ?_) kx_V
      obtain ⟨mv9, hR9, hFc9, hgmv9, hp9_0⟩ := hw9
      obtain ⟨h19_9, h20_9, h21_9, h22_9, hbb_9, hbl_9, hb3_9⟩ := hR9
      have hF9 := hF8.tr hFc9
      refine J_aload_n (pc := 39) dX8_points_39 rfl rfl rfl ?_
      refine J_iload_n (pc := 40) dX8_points_40 rfl rfl ?_
      refine J_callV0 (pc := 41) (M := mX8_points) (as := [.int (nI n)]) dX8_points_41 fw_X8_told fl_X8_49 fm_X8_told fe_X8_told h19_9 (by decide) rfl rfl rfl (c_X8_told hs (d := d - 1) (by omega) (w := w9) (n := k7) (mv := mv9) (rw := rw) (nx := nx) (b := b) (bt := bt) (kn := (-1)) (en := en) (dn := dn) (rf := rf) (kk := kk) (th := nI (tW 0 0)) ⟨h19_9, h20_9, h21_9, h22_9, hbb_9, hbl_9, hb3_9⟩ (by omega) (by omega) hgmv9 gr gx (nI n) (kc := 0) (ks := 0)) (by omega) (st := []) (Nat.le_of_ble_eq_true rfl) rfl (kr_I fun v10 w10 hv10 hw10 => ?_) kx_I
      obtain ⟨hR10, hFc10⟩ := hw10
      obtain ⟨h19_10, h20_10, h21_10, h22_10, hbb_10, hbl_10, hb3_10⟩ := hR10
      have hF10 := hF9.tr hFc10
      subst hv10
      exact J_iret (pc := 44) dX8_points_44 rfl ⟨trivial, ⟨k7, mv9, (-1), (dn + nI 1), nI (tW 0 0), ⟨h19_10, h20_10, h21_10, h22_10, hbb_10, hbl_10, hb3_10⟩, hF10, hgmv9, (by omega), (by omega), (by first | assumption | exact PM_id (by omega) (by assumption)), (by first | assumption | exact Or.inl rfl)⟩⟩
    · refine J_iconst (pc := 12) (v := nI 1) dX8_points_12 (by decide) ?_
      refine J_goto (pc := 13) (tgt := 17) dX8_points_13 (by decide) ?_
      refine J_callV0 (pc := 17) (M := mX8_points) (as := [.int (nI 1)]) dX8_points_17 fw_X8_isThrown_ fl_X8_105 fm_X8_isThrown_ fe_X8_isThrown_ h19 (by decide) rfl rfl rfl (c_X8_isThrown_ hs (d := d - 1) (by omega) (w := w) (n := n) (mv := mv) (rw := rw) (nx := nx) (b := b) (bt := bt) (kn := kn) (en := en) (dn := dn) (rf := rf) (kk := kk) (th := th) ⟨h19, h20, h21, h22, hbb, hbl, hb3⟩ hn1 hn2 gm gr gx 1 (by first | assumption | omega) (kc := 0) (ks := 0)) (by omega) (st := []) (Nat.le_of_ble_eq_true rfl) rfl (kr_I fun v11 w11 hv11 hw11 => ?_) kx_I
      obtain ⟨hR11, hFc11⟩ := hw11
      obtain ⟨h19_11, h20_11, h21_11, h22_11, hbb_11, hbl_11, hb3_11⟩ := hR11
      have hF11 := hF.tr hFc11
      subst hv11
      show J X mX8_points d kc ks 20 [some (.ref 19), some (.int a), none] [.int (nI 1)] w11 _
      refine J_if_eqN (pc := 20) (tgt := 25) dX8_points_20 (by decide) (by decide) (fun h => absurd h (by decide)) (fun _ => ?_)
      refine J_iconst (pc := 23) (v := nI 0) dX8_points_23 (by decide) ?_
      exact J_iret (pc := 24) dX8_points_24 rfl ⟨trivial, ⟨n, mv, kn, dn, nI (tW 1 0), ⟨h19_11, h20_11, h21_11, h22_11, hbb_11, hbl_11, hb3_11⟩, hF11, gm, (by omega), (by omega), (by first | assumption | exact PM_id (by omega) (by assumption)), (by first | assumption | exact Or.inl rfl)⟩⟩
set_option maxRecDepth 100000 in
set_option maxHeartbeats 4000000 in
theorem c_X8_lay {X : jX} (hs : X.1.stackTraces = false) {d : Nat} (hd : 2 ≤ d) {n : Nat} {mv rw nx : Nat → Nat} {b : Nat} {bt : List Int32} {kn en dn rf kk th : Int32} {w : List jC} (hR : RM n mv rw nx b bt kn en dn rf kk th w) (hn1 : 2 ≤ n) (hn2 : n ≤ 7) (gm : ∀ i, mv i < 7) (gr : ∀ i, rw i < 7) (gx : ∀ i, nx i < 7) (a : Int32) (c : Int32) (hy0 : PM n mv) (hy1 : KB n kn bt) {kc ks : Nat} : jMet X mX8_lay d kc ks [.ref 19, .int a, .int c] w (pI (fun _ => True) (fun w' => ∃ (mv' : Nat → Nat), ∃ (rw' : Nat → Nat), ∃ (kn' : Int32), ∃ (dn' : Int32), ∃ (th' : Int32), RM n mv' rw' nx b bt kn' en dn' rf kk th' w' ∧ FR b b w w' ∧ (∀ i, mv' i < 7) ∧ (∀ i, rw' i < 7) ∧ PM n mv' ∧ KB n kn' bt)) := by
  refine jMet_of hs (by decide +kernel) (Nat.le_of_ble_eq_true rfl) (L := [some (.ref 19), some (.int a), some (.int c), none]) rfl ?_
  have hfc := fc_7 hn2
  have hfp := fc_pos n
  obtain ⟨h19, h20, h21, h22, hbb, hbl, hb3⟩ := hR
  have hF : FR b b w w := FR.rf
  refine J_aload_n (pc := 0) dX8_lay_0 rfl rfl rfl ?_
  refine J_iload_n (pc := 1) dX8_lay_1 rfl rfl ?_
  refine J_callS0 (pc := 2) (M := mX8_lay) (as := [.int a]) dX8_lay_2 fw_X8_isCell fl_X8_108 fs_X8_isCell rfl (c_X8_isCell hs (d := d - 1) (by omega) (w := w) a (kc := 0) (ks := 0)) (by omega) (st := [.ref 19]) (Nat.le_of_ble_eq_true rfl) rfl (kr_P fun v1 hv1 => ?_) kx_I
  rcases hv1 with ⟨rfl, hk1_0⟩ | ⟨q1, rfl, hk1_0, rfl⟩
  · refine J_if_neN (pc := 5) (tgt := 12) dX8_lay_5 (by decide) (by decide) (fun h => absurd h (by decide)) (fun _ => ?_)
    refine J_iconst (pc := 8) (v := nI 1) dX8_lay_8 (by decide) ?_
    refine J_goto (pc := 9) (tgt := 13) dX8_lay_9 (by decide) ?_
    refine J_iload_n (pc := 13) dX8_lay_13 rfl rfl ?_
    refine J_if_lt (pc := 14) (tgt := 25) dX8_lay_14 (by decide) (fun ht2 => ?_) (fun hf3 => ?_)
    · refine J_iconst (pc := 25) (v := nI 1) dX8_lay_25 (by decide) ?_
      refine J_goto (pc := 26) (tgt := 30) dX8_lay_26 (by decide) ?_
      refine J_callV0 (pc := 30) (M := mX8_lay) (as := [.int (nI 1), .int (nI 1)]) dX8_lay_30 fw_X8_isThrown fl_X8_35 fm_X8_isThrown fe_X8_isThrown h19 (by decide) rfl rfl rfl (c_X8_isThrown hs (d := d - 1) (by omega) (w := w) (n := n) (mv := mv) (rw := rw) (nx := nx) (b := b) (bt := bt) (kn := kn) (en := en) (dn := dn) (rf := rf) (kk := kk) (th := th) ⟨h19, h20, h21, h22, hbb, hbl, hb3⟩ hn1 hn2 gm gr gx 1 1 (by first | assumption | omega) (by first | assumption | omega) (kc := 0) (ks := 0)) (by omega) (st := []) (Nat.le_of_ble_eq_true rfl) rfl (kr_I fun v4 w4 hv4 hw4 => ?_) kx_I
      obtain ⟨hR4, hFc4⟩ := hw4
      obtain ⟨h19_4, h20_4, h21_4, h22_4, hbb_4, hbl_4, hb3_4⟩ := hR4
      have hF4 := hF.tr hFc4
      subst hv4
      show J X mX8_lay d kc ks 33 [some (.ref 19), some (.int a), some (.int c), none] [.int (nI 1)] w4 _
      refine J_if_eqN (pc := 33) (tgt := 38) dX8_lay_33 (by decide) (by decide) (fun h => absurd h (by decide)) (fun _ => ?_)
      refine J_iconst (pc := 36) (v := nI 0) dX8_lay_36 (by decide) ?_
      exact J_iret (pc := 37) dX8_lay_37 rfl ⟨trivial, ⟨mv, rw, kn, dn, nI (tW 1 1), ⟨h19_4, h20_4, h21_4, h22_4, hbb_4, hbl_4, hb3_4⟩, hF4, gm, gr, (by first | assumption | exact PM_st hn2 (by assumption) (by assumption) (by assumption)), (by first | assumption | exact Or.inl rfl)⟩⟩
    · refine J_iload_n (pc := 17) dX8_lay_17 rfl rfl ?_
      refine J_aload_n (pc := 18) dX8_lay_18 rfl rfl rfl ?_
      refine J_callV0 (pc := 19) (M := mX8_lay) (as := []) dX8_lay_19 fw_X8_all fl_X8_65 fm_X8_all fe_X8_all h19 (by decide) rfl rfl rfl (c_X8_all hs (d := d - 1) (by omega) (w := w) (n := n) (mv := mv) (rw := rw) (nx := nx) (b := b) (bt := bt) (kn := kn) (en := en) (dn := dn) (rf := rf) (kk := kk) (th := th) ⟨h19, h20, h21, h22, hbb, hbl, hb3⟩ hn1 hn2 gm gr gx  (kc := 0) (ks := 0)) (by omega) (st := [.int c, .int (nI 1), .ref 19]) (Nat.le_of_ble_eq_true rfl) rfl (kr_P fun v5 hv5 => ?_) kx_I
      subst hv5
      refine J_icmp_lt (pc := 22) (tgt := 29) dX8_lay_22 (by decide) (fun ht6 => ?_) (fun hf7 => ?_)
      · refine J_iconst (pc := 29) (v := nI 0) dX8_lay_29 (by decide) ?_
        refine J_callV0 (pc := 30) (M := mX8_lay) (as := [.int (nI 1), .int (nI 0)]) dX8_lay_30 fw_X8_isThrown fl_X8_35 fm_X8_isThrown fe_X8_isThrown h19 (by decide) rfl rfl rfl (c_X8_isThrown hs (d := d - 1) (by omega) (w := w) (n := n) (mv := mv) (rw := rw) (nx := nx) (b := b) (bt := bt) (kn := kn) (en := en) (dn := dn) (rf := rf) (kk := kk) (th := th) ⟨h19, h20, h21, h22, hbb, hbl, hb3⟩ hn1 hn2 gm gr gx 1 0 (by first | assumption | omega) (by first | assumption | omega) (kc := 0) (ks := 0)) (by omega) (st := []) (Nat.le_of_ble_eq_true rfl) rfl (kr_I fun v8 w8 hv8 hw8 => ?_) kx_I
        obtain ⟨hR8, hFc8⟩ := hw8
        obtain ⟨h19_8, h20_8, h21_8, h22_8, hbb_8, hbl_8, hb3_8⟩ := hR8
        have hF8 := hF.tr hFc8
        subst hv8
        show J X mX8_lay d kc ks 33 [some (.ref 19), some (.int a), some (.int c), none] [.int (nI 1)] w8 _
        refine J_if_eqN (pc := 33) (tgt := 38) dX8_lay_33 (by decide) (by decide) (fun h => absurd h (by decide)) (fun _ => ?_)
        refine J_iconst (pc := 36) (v := nI 0) dX8_lay_36 (by decide) ?_
        exact J_iret (pc := 37) dX8_lay_37 rfl ⟨trivial, ⟨mv, rw, kn, dn, nI (tW 1 0), ⟨h19_8, h20_8, h21_8, h22_8, hbb_8, hbl_8, hb3_8⟩, hF8, gm, gr, (by first | assumption | exact PM_st hn2 (by assumption) (by assumption) (by assumption)), (by first | assumption | exact Or.inl rfl)⟩⟩
      · refine J_iconst (pc := 25) (v := nI 1) dX8_lay_25 (by decide) ?_
        refine J_goto (pc := 26) (tgt := 30) dX8_lay_26 (by decide) ?_
        refine J_callV0 (pc := 30) (M := mX8_lay) (as := [.int (nI 1), .int (nI 1)]) dX8_lay_30 fw_X8_isThrown fl_X8_35 fm_X8_isThrown fe_X8_isThrown h19 (by decide) rfl rfl rfl (c_X8_isThrown hs (d := d - 1) (by omega) (w := w) (n := n) (mv := mv) (rw := rw) (nx := nx) (b := b) (bt := bt) (kn := kn) (en := en) (dn := dn) (rf := rf) (kk := kk) (th := th) ⟨h19, h20, h21, h22, hbb, hbl, hb3⟩ hn1 hn2 gm gr gx 1 1 (by first | assumption | omega) (by first | assumption | omega) (kc := 0) (ks := 0)) (by omega) (st := []) (Nat.le_of_ble_eq_true rfl) rfl (kr_I fun v9 w9 hv9 hw9 => ?_) kx_I
        obtain ⟨hR9, hFc9⟩ := hw9
        obtain ⟨h19_9, h20_9, h21_9, h22_9, hbb_9, hbl_9, hb3_9⟩ := hR9
        have hF9 := hF.tr hFc9
        subst hv9
        show J X mX8_lay d kc ks 33 [some (.ref 19), some (.int a), some (.int c), none] [.int (nI 1)] w9 _
        refine J_if_eqN (pc := 33) (tgt := 38) dX8_lay_33 (by decide) (by decide) (fun h => absurd h (by decide)) (fun _ => ?_)
        refine J_iconst (pc := 36) (v := nI 0) dX8_lay_36 (by decide) ?_
        exact J_iret (pc := 37) dX8_lay_37 rfl ⟨trivial, ⟨mv, rw, kn, dn, nI (tW 1 1), ⟨h19_9, h20_9, h21_9, h22_9, hbb_9, hbl_9, hb3_9⟩, hF9, gm, gr, (by first | assumption | exact PM_st hn2 (by assumption) (by assumption) (by assumption)), (by first | assumption | exact Or.inl rfl)⟩⟩
  · refine J_if_neN (pc := 5) (tgt := 12) dX8_lay_5 (by decide) (by decide) (fun _ => ?_) (fun h => absurd h (by decide))
    refine J_iconst (pc := 12) (v := nI 0) dX8_lay_12 (by decide) ?_
    refine J_iload_n (pc := 13) dX8_lay_13 rfl rfl ?_
    refine J_if_lt (pc := 14) (tgt := 25) dX8_lay_14 (by decide) (fun ht10 => ?_) (fun hf11 => ?_)
    · refine J_iconst (pc := 25) (v := nI 1) dX8_lay_25 (by decide) ?_
      refine J_goto (pc := 26) (tgt := 30) dX8_lay_26 (by decide) ?_
      refine J_callV0 (pc := 30) (M := mX8_lay) (as := [.int (nI 0), .int (nI 1)]) dX8_lay_30 fw_X8_isThrown fl_X8_35 fm_X8_isThrown fe_X8_isThrown h19 (by decide) rfl rfl rfl (c_X8_isThrown hs (d := d - 1) (by omega) (w := w) (n := n) (mv := mv) (rw := rw) (nx := nx) (b := b) (bt := bt) (kn := kn) (en := en) (dn := dn) (rf := rf) (kk := kk) (th := th) ⟨h19, h20, h21, h22, hbb, hbl, hb3⟩ hn1 hn2 gm gr gx 0 1 (by first | assumption | omega) (by first | assumption | omega) (kc := 0) (ks := 0)) (by omega) (st := []) (Nat.le_of_ble_eq_true rfl) rfl (kr_I fun v12 w12 hv12 hw12 => ?_) kx_I
      obtain ⟨hR12, hFc12⟩ := hw12
      obtain ⟨h19_12, h20_12, h21_12, h22_12, hbb_12, hbl_12, hb3_12⟩ := hR12
      have hF12 := hF.tr hFc12
      subst hv12
      show J X mX8_lay d kc ks 33 [some (.ref 19), some (.int (nI q1)), some (.int c), none] [.int (nI 1)] w12 _
      refine J_if_eqN (pc := 33) (tgt := 38) dX8_lay_33 (by decide) (by decide) (fun h => absurd h (by decide)) (fun _ => ?_)
      refine J_iconst (pc := 36) (v := nI 0) dX8_lay_36 (by decide) ?_
      exact J_iret (pc := 37) dX8_lay_37 rfl ⟨trivial, ⟨mv, rw, kn, dn, nI (tW 0 1), ⟨h19_12, h20_12, h21_12, h22_12, hbb_12, hbl_12, hb3_12⟩, hF12, gm, gr, (by first | assumption | exact PM_st hn2 (by assumption) (by assumption) (by assumption)), (by first | assumption | exact Or.inl rfl)⟩⟩
    · refine J_iload_n (pc := 17) dX8_lay_17 rfl rfl ?_
      refine J_aload_n (pc := 18) dX8_lay_18 rfl rfl rfl ?_
      refine J_callV0 (pc := 19) (M := mX8_lay) (as := []) dX8_lay_19 fw_X8_all fl_X8_65 fm_X8_all fe_X8_all h19 (by decide) rfl rfl rfl (c_X8_all hs (d := d - 1) (by omega) (w := w) (n := n) (mv := mv) (rw := rw) (nx := nx) (b := b) (bt := bt) (kn := kn) (en := en) (dn := dn) (rf := rf) (kk := kk) (th := th) ⟨h19, h20, h21, h22, hbb, hbl, hb3⟩ hn1 hn2 gm gr gx  (kc := 0) (ks := 0)) (by omega) (st := [.int c, .int (nI 0), .ref 19]) (Nat.le_of_ble_eq_true rfl) rfl (kr_P fun v13 hv13 => ?_) kx_I
      subst hv13
      refine J_icmp_lt (pc := 22) (tgt := 29) dX8_lay_22 (by decide) (fun ht14 => ?_) (fun hf15 => ?_)
      · refine J_iconst (pc := 29) (v := nI 0) dX8_lay_29 (by decide) ?_
        refine J_callV0 (pc := 30) (M := mX8_lay) (as := [.int (nI 0), .int (nI 0)]) dX8_lay_30 fw_X8_isThrown fl_X8_35 fm_X8_isThrown fe_X8_isThrown h19 (by decide) rfl rfl rfl (c_X8_isThrown hs (d := d - 1) (by omega) (w := w) (n := n) (mv := mv) (rw := rw) (nx := nx) (b := b) (bt := bt) (kn := kn) (en := en) (dn := dn) (rf := rf) (kk := kk) (th := th) ⟨h19, h20, h21, h22, hbb, hbl, hb3⟩ hn1 hn2 gm gr gx 0 0 (by first | assumption | omega) (by first | assumption | omega) (kc := 0) (ks := 0)) (by omega) (st := []) (Nat.le_of_ble_eq_true rfl) rfl (kr_I fun v16 w16 hv16 hw16 => ?_) kx_I
        obtain ⟨hR16, hFc16⟩ := hw16
        obtain ⟨h19_16, h20_16, h21_16, h22_16, hbb_16, hbl_16, hb3_16⟩ := hR16
        have hF16 := hF.tr hFc16
        subst hv16
        show J X mX8_lay d kc ks 33 [some (.ref 19), some (.int (nI q1)), some (.int c), none] [.int (nI 0)] w16 _
        refine J_if_eqN (pc := 33) (tgt := 38) dX8_lay_33 (by decide) (by decide) (fun _ => ?_) (fun h => absurd h (by decide))
        obtain ⟨k17, hk17, rfl⟩ := nI_k2 ht14 (by omega) hf11
        refine J_aload_n (pc := 38) dX8_lay_38 rfl rfl rfl ?_
        refine J_aload_n (pc := 39) dX8_lay_39 rfl rfl rfl ?_
        refine J_get (pc := 40) (k := 1) dX8_lay_40 kC9 (by decide) ff_X8_13 h19_16 rfl ?_
        refine J_iload_n (pc := 43) dX8_lay_43 rfl rfl ?_
        refine J_bipush (pc := 44) (v := nI 7) dX8_lay_44 (by decide) ?_
        refine J_imulN (pc := 46) dX8_lay_46 ?_
        refine J_callV0 (pc := 47) (M := mX8_lay) (as := [.ref 20, .int (nI (q1 * 7))]) dX8_lay_47 fw_X8_numberOf fl_X8_45 fm_X8_numberOf fe_X8_numberOf h19_16 (by decide) rfl rfl rfl (c_X8_numberOf_at20 hs (d := d - 1) (by omega) (w := w16) (n := n) (mv := mv) (rw := rw) (nx := nx) (b := b) (bt := bt) (kn := kn) (en := en) (dn := dn) (rf := rf) (kk := kk) (th := nI (tW 0 0)) ⟨h19_16, h20_16, h21_16, h22_16, hbb_16, hbl_16, hb3_16⟩ hn1 hn2 gm gr gx (q1 * 7) (by first | assumption | omega) (kc := 0) (ks := 0)) (by omega) (st := []) (Nat.le_of_ble_eq_true rfl) rfl (kr_P fun v18 hv18 => ?_) kx_I
        subst hv18
        have hq19 := nuF_b mv (q1 * 7) n
        refine J_istore_n (pc := 50) dX8_lay_50 rfl (by decide) rfl ?_
        show J X mX8_lay d kc ks 51 [some (.ref 19), some (.int (nI q1)), some (.int (nI k17)), some (.int (nI (nuF mv (q1 * 7) n n)))] [] w16 _
        refine J_aload_n (pc := 51) dX8_lay_51 rfl rfl rfl ?_
        refine J_iload_n (pc := 52) dX8_lay_52 rfl rfl ?_
        refine J_aload_n (pc := 53) dX8_lay_53 rfl rfl rfl ?_
        refine J_get (pc := 54) (k := 2) dX8_lay_54 kC9 (by decide) ff_X8_17 h19_16 rfl ?_
        refine J_callV0 (pc := 57) (M := mX8_lay) (as := [.int (nI k17), .ref 21]) dX8_lay_57 fw_X8_rowOf fl_X8_78 fm_X8_rowOf fe_X8_rowOf h19_16 (by decide) rfl rfl rfl (c_X8_rowOf hs (d := d - 1) (by omega) (w := w16) (n := n) (mv := mv) (rw := rw) (nx := nx) (b := b) (bt := bt) (kn := kn) (en := en) (dn := dn) (rf := rf) (kk := kk) (th := nI (tW 0 0)) ⟨h19_16, h20_16, h21_16, h22_16, hbb_16, hbl_16, hb3_16⟩ hn1 hn2 gm gr gx k17 (by first | assumption | omega) (kc := 0) (ks := 0)) (by omega) (st := []) (Nat.le_of_ble_eq_true rfl) rfl (kr_V fun w20 hw20 => ?_) kx_V
        obtain ⟨rw20, hR20, hFc20, hgrw20, hp20_0⟩ := hw20
        obtain ⟨h19_20, h20_20, h21_20, h22_20, hbb_20, hbl_20, hb3_20⟩ := hR20
        have hF20 := hF16.tr hFc20
        have hPr := Pn_row (by omega) hp20_0
        refine J_aload_n (pc := 60) dX8_lay_60 rfl rfl rfl ?_
        refine J_iload_n (pc := 61) dX8_lay_61 rfl rfl ?_
        refine J_aload_n (pc := 62) dX8_lay_62 rfl rfl rfl ?_
        refine J_get (pc := 63) (k := 2) dX8_lay_63 kC9 (by decide) ff_X8_17 h19_20 rfl ?_
        refine J_callV0 (pc := 66) (M := mX8_lay) (as := [.int (nI q1), .ref 21]) dX8_lay_66 fw_X8_get fl_X8_111 fm_X8_get fe_X8_get h19_20 (by decide) rfl rfl rfl (c_X8_get_at21 hs (d := d - 1) (by omega) (w := w20) (n := n) (mv := mv) (rw := rw20) (nx := nx) (b := b) (bt := bt) (kn := kn) (en := en) (dn := dn) (rf := rf) (kk := kk) (th := nI (tW 0 0)) ⟨h19_20, h20_20, h21_20, h22_20, hbb_20, hbl_20, hb3_20⟩ hn1 hn2 gm hgrw20 gx q1 (by first | assumption | omega) (kc := 0) (ks := 0)) (by omega) (st := []) (Nat.le_of_ble_eq_true rfl) rfl (kr_I fun v21 w21 hv21 hw21 => ?_) kx_I
        obtain ⟨mv21, hR21, hFc21, hgmv21, hp21_0⟩ := hw21
        obtain ⟨h19_21, h20_21, h21_21, h22_21, hbb_21, hbl_21, hb3_21⟩ := hR21
        have hF21 := hF20.tr hFc21
        subst hv21
        refine J_pop (pc := 69) dX8_lay_69 rfl ?_
        refine J_iload_n (pc := 70) dX8_lay_70 rfl rfl ?_
        exact J_iret (pc := 71) dX8_lay_71 rfl ⟨trivial, ⟨mv21, rw20, (-1), (dn + nI 1), nI (tW 0 0), ⟨h19_21, h20_21, h21_21, h22_21, hbb_21, hbl_21, hb3_21⟩, hF21, hgmv21, hgrw20, (by first | assumption | exact PM_st hn2 (by assumption) (by assumption) (by assumption)), (by first | assumption | exact Or.inl rfl)⟩⟩
      · refine J_iconst (pc := 25) (v := nI 1) dX8_lay_25 (by decide) ?_
        refine J_goto (pc := 26) (tgt := 30) dX8_lay_26 (by decide) ?_
        refine J_callV0 (pc := 30) (M := mX8_lay) (as := [.int (nI 0), .int (nI 1)]) dX8_lay_30 fw_X8_isThrown fl_X8_35 fm_X8_isThrown fe_X8_isThrown h19 (by decide) rfl rfl rfl (c_X8_isThrown hs (d := d - 1) (by omega) (w := w) (n := n) (mv := mv) (rw := rw) (nx := nx) (b := b) (bt := bt) (kn := kn) (en := en) (dn := dn) (rf := rf) (kk := kk) (th := th) ⟨h19, h20, h21, h22, hbb, hbl, hb3⟩ hn1 hn2 gm gr gx 0 1 (by first | assumption | omega) (by first | assumption | omega) (kc := 0) (ks := 0)) (by omega) (st := []) (Nat.le_of_ble_eq_true rfl) rfl (kr_I fun v22 w22 hv22 hw22 => ?_) kx_I
        obtain ⟨hR22, hFc22⟩ := hw22
        obtain ⟨h19_22, h20_22, h21_22, h22_22, hbb_22, hbl_22, hb3_22⟩ := hR22
        have hF22 := hF.tr hFc22
        subst hv22
        show J X mX8_lay d kc ks 33 [some (.ref 19), some (.int (nI q1)), some (.int c), none] [.int (nI 1)] w22 _
        refine J_if_eqN (pc := 33) (tgt := 38) dX8_lay_33 (by decide) (by decide) (fun h => absurd h (by decide)) (fun _ => ?_)
        refine J_iconst (pc := 36) (v := nI 0) dX8_lay_36 (by decide) ?_
        exact J_iret (pc := 37) dX8_lay_37 rfl ⟨trivial, ⟨mv, rw, kn, dn, nI (tW 0 1), ⟨h19_22, h20_22, h21_22, h22_22, hbb_22, hbl_22, hb3_22⟩, hF22, gm, gr, (by first | assumption | exact PM_st hn2 (by assumption) (by assumption) (by assumption)), (by first | assumption | exact Or.inl rfl)⟩⟩
