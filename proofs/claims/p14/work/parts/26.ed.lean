/-! contracts of the reference: rspec4 -/
set_option maxRecDepth 100000 in
set_option maxHeartbeats 4000000 in
theorem c_X8_evenNow_atk {X : jX} (hs : X.1.stackTraces = false) {d : Nat} (hd : 4 ≤ d) {n : Nat} {mv rw nx : Nat → Nat} {b : Nat} {bt : List Int32} {kn en dn rf kk th : Int32} {w : List jC} (hR : RM n mv rw nx b bt kn en dn rf kk th w) (hn1 : 2 ≤ n) (hn2 : n ≤ 7) (gm : ∀ i, mv i < 7) (gr : ∀ i, rw i < 7) (gx : ∀ i, nx i < 7) (s : Nat) (hy0 : s < 64) (hy1 : kn = nI s) (hy2 : BX n mv s bt) (hy3 : PM n mv) {kc ks : Nat} : jMet X mX8_evenNow d kc ks [.ref 19, .int (nI s)] w (pI (fun _ => True) (fun w' => ∃ (rw' : Nat → Nat), RM n mv rw' nx b bt kn en dn rf kk th w' ∧ FR b b w w' ∧ (∀ i, rw' i < 7))) := by
  refine jMet_of hs (by decide +kernel) (Nat.le_of_ble_eq_true rfl) (L := [some (.ref 19), some (.int (nI s)), none, none]) rfl ?_
  have hdm : 3 ≤ d - 1 := by omega
  have hdp : d - 1 + 1 ≤ d := by omega
  have hfc := fc_7 hn2
  have hfp := fc_pos n
  obtain ⟨h19, h20, h21, h22, hbb, hbl, hb3⟩ := hR
  have hF : FR b b w w := FR.rf
  refine J_aload_n (pc := 0) dX8_evenNow_0 rfl rfl rfl ?_
  refine J_iload_n (pc := 1) dX8_evenNow_1 rfl rfl ?_
  refine J_callV0 (pc := 2) (M := mX8_evenNow) (as := [.int (nI s)]) dX8_evenNow_2 fw_X8_group fl_X8_99 fm_X8_group fe_X8_group h19 (by decide) rfl rfl rfl (c_X8_group_atk hs (d := d - 1) (Nat.le_trans (by decide) hdm) (w := w) (n := n) (mv := mv) (rw := rw) (nx := nx) (b := b) (bt := bt) (kn := kn) (en := en) (dn := dn) (rf := rf) (kk := kk) (th := th) ⟨h19, h20, h21, h22, hbb, hbl, hb3⟩ hn1 hn2 gm gr gx s (by first | assumption | omega) (by first | assumption | omega) (kc := 0) (ks := 0)) hdp (st := []) (Nat.le_of_ble_eq_true rfl) rfl (kr_V fun w1 hw1 => ?_) kx_V
  obtain rfl := hw1.symm
  refine J_iconst (pc := 5) (v := nI 0) dX8_evenNow_5 (by decide) ?_
  refine J_istore_n (pc := 6) dX8_evenNow_6 rfl (by decide) rfl ?_
  show J X mX8_evenNow d kc ks 7 [some (.ref 19), some (.int (nI s)), some (.int (nI 0)), none] [] w _
  refine J_aload_n (pc := 7) dX8_evenNow_7 rfl rfl rfl ?_
  refine J_iconst (pc := 8) (v := nI 0) dX8_evenNow_8 (by decide) ?_
  refine J_callV0 (pc := 9) (M := mX8_evenNow) (as := [.int (nI 0)]) dX8_evenNow_9 fw_X8_from fl_X8_137 fm_X8_from fe_X8_from h19 (by decide) rfl rfl rfl (c_X8_from hs (d := d - 1) (Nat.le_trans (by decide) hdm) (w := w) (n := n) (mv := mv) (rw := rw) (nx := nx) (b := b) (bt := bt) (kn := kn) (en := en) (dn := dn) (rf := rf) (kk := kk) (th := th) ⟨h19, h20, h21, h22, hbb, hbl, hb3⟩ hn1 hn2 gm gr gx 0 (by first | assumption | omega) (kc := 0) (ks := 0)) hdp (st := []) (Nat.le_of_ble_eq_true rfl) rfl (kr_P fun v2 hv2 => ?_) kx_I
  rcases hv2 with ⟨rfl, hk2_0⟩ | ⟨q2, rfl, hk2_0, hk2_1, hk2_2, hk2_3⟩
  · refine J_istore_n (pc := 12) dX8_evenNow_12 rfl (by decide) rfl ?_
    show J X mX8_evenNow d kc ks 13 [some (.ref 19), some (.int (nI s)), some (.int (nI 0)), some (.int (-1))] [] w _
    have lp13_3 : ∀ (fuel : Nat) (w4 : List jC) (rw_13 : Nat → Nat) (z2 : Int32) (c3 : Nat), (RM n mv rw_13 nx b bt kn en dn rf kk th w4) → (FR b b w w4) → (∀ i, rw_13 i < 7) → (c3 ≤ fc n) → (mu (fc n) c3 < fuel) → J X mX8_evenNow d kc ks 13 [some (.ref 19), some (.int (nI s)), some (.int z2), some (.int (nI c3 + Int32.ofInt (-1)))] [] w4 (pI (fun _ => True) (fun w' => ∃ (rw' : Nat → Nat), RM n mv rw' nx b bt kn en dn rf kk th w' ∧ FR b b w w' ∧ (∀ i, rw' i < 7))) := by
      intro fuellp13_3
      induction fuellp13_3 with
      | zero => intros; omega
      | succ fuellp13_3 ihlp13_3 =>
        intro w4 rw_13 z2 c3 hR5 hF6 gr7 hv13_0 hf8
        obtain ⟨h19_9, h20_9, h21_9, h22_9, hb_9, hbl_9, hb3_9⟩ := hR5
        refine J_iload_n (pc := 13) dX8_evenNow_13 rfl rfl ?_
        refine J_if_ltM (pc := 14) (tgt := 58) dX8_evenNow_14 (by decide) (by omega) (fun ht10 => ?_) (fun hf11 => ?_)
        · refine J_iload_n (pc := 58) dX8_evenNow_58 rfl rfl ?_
          exact J_iret (pc := 59) dX8_evenNow_59 rfl ⟨trivial, ⟨rw_13, ⟨h19_9, h20_9, h21_9, h22_9, hb_9, hbl_9, hb3_9⟩, hF6, gr7⟩⟩
        · rw [nI_m1 hf11]
          refine J_aload_n (pc := 17) dX8_evenNow_17 rfl rfl rfl ?_
          refine J_iload_n (pc := 18) dX8_evenNow_18 rfl rfl ?_
          refine J_aload_n (pc := 19) dX8_evenNow_19 rfl rfl rfl ?_
          refine J_get (pc := 20) (k := 2) dX8_evenNow_20 kC9 (by decide) ff_X8_17 h19_9 rfl ?_
          refine J_callV0 (pc := 23) (M := mX8_evenNow) (as := [.int (nI (c3 - 1)), .ref 21]) dX8_evenNow_23 fw_X8_rowOf fl_X8_78 fm_X8_rowOf fe_X8_rowOf h19_9 (by decide) rfl rfl rfl (c_X8_rowOf hs (d := d - 1) (Nat.le_trans (by decide) hdm) (w := w4) (n := n) (mv := mv) (rw := rw_13) (nx := nx) (b := b) (bt := bt) (kn := kn) (en := en) (dn := dn) (rf := rf) (kk := kk) (th := th) ⟨h19_9, h20_9, h21_9, h22_9, hb_9, hbl_9, hb3_9⟩ hn1 hn2 gm gr7 gx (c3 - 1) (by first | assumption | omega) (kc := 0) (ks := 0)) hdp (st := []) (Nat.le_of_ble_eq_true rfl) rfl (kr_V fun w12 hw12 => ?_) kx_V
          obtain ⟨rw12, hR12, hFc12, hgrw12, hp12_0⟩ := hw12
          obtain ⟨h19_12, h20_12, h21_12, h22_12, hbb_12, hbl_12, hb3_12⟩ := hR12
          have hF12 := hF6.tr hFc12
          refine J_iload_n (pc := 26) dX8_evenNow_26 rfl rfl ?_
          refine J_aload_n (pc := 27) dX8_evenNow_27 rfl rfl rfl ?_
          refine J_aload_n (pc := 28) dX8_evenNow_28 rfl rfl rfl ?_
          refine J_get (pc := 29) (k := 2) dX8_evenNow_29 kC9 (by decide) ff_X8_17 h19_12 rfl ?_
          refine J_iconst (pc := 32) (v := nI 0) dX8_evenNow_32 (by decide) ?_
          refine J_callV0 (pc := 33) (M := mX8_evenNow) (as := [.ref 21, .int (nI 0)]) dX8_evenNow_33 fw_X8_signOf fl_X8_115 fm_X8_signOf fe_X8_signOf h19_12 (by decide) rfl rfl rfl (c_X8_signOf_at21 hs (d := d - 1) (Nat.le_trans (by decide) hdm) (w := w12) (n := n) (mv := mv) (rw := rw12) (nx := nx) (b := b) (bt := bt) (kn := kn) (en := en) (dn := dn) (rf := rf) (kk := kk) (th := th) ⟨h19_12, h20_12, h21_12, h22_12, hbb_12, hbl_12, hb3_12⟩ hn1 hn2 gm hgrw12 gx 0 (by first | assumption | omega) (kc := 0) (ks := 0)) hdp (st := [.int z2]) (Nat.le_of_ble_eq_true rfl) rfl (kr_P fun v13 hv13 => ?_) kx_I
          refine J_iconst (pc := 36) (v := nI 1) dX8_evenNow_36 (by decide) ?_
          refine J_icmp_ne (pc := 37) (tgt := 44) dX8_evenNow_37 (by decide) (fun ht14 => ?_) (fun hf15 => ?_)
          · refine J_iconst (pc := 44) (v := nI 0) dX8_evenNow_44 (by decide) ?_
            refine J_iadd (pc := 45) dX8_evenNow_45 (J_absI fun x16 => ?_)
            refine J_istore_n (pc := 46) dX8_evenNow_46 rfl (by decide) rfl ?_
            show J X mX8_evenNow d kc ks 47 [some (.ref 19), some (.int (nI s)), some (.int x16), some (.int (nI (c3 - 1)))] [] w12 _
            refine J_aload_n (pc := 47) dX8_evenNow_47 rfl rfl rfl ?_
            refine J_iload_n (pc := 48) dX8_evenNow_48 rfl rfl ?_
            refine J_iconst (pc := 49) (v := nI 1) dX8_evenNow_49 (by decide) ?_
            refine J_iaddN (pc := 50) dX8_evenNow_50 ?_
            refine J_callV0 (pc := 51) (M := mX8_evenNow) (as := [.int (nI ((c3 - 1) + 1))]) dX8_evenNow_51 fw_X8_from fl_X8_137 fm_X8_from fe_X8_from h19_12 (by decide) rfl rfl rfl (c_X8_from hs (d := d - 1) (Nat.le_trans (by decide) hdm) (w := w12) (n := n) (mv := mv) (rw := rw12) (nx := nx) (b := b) (bt := bt) (kn := kn) (en := en) (dn := dn) (rf := rf) (kk := kk) (th := th) ⟨h19_12, h20_12, h21_12, h22_12, hbb_12, hbl_12, hb3_12⟩ hn1 hn2 gm hgrw12 gx ((c3 - 1) + 1) (by first | assumption | omega) (kc := 0) (ks := 0)) hdp (st := []) (Nat.le_of_ble_eq_true rfl) rfl (kr_P fun v17 hv17 => ?_) kx_I
            rcases hv17 with ⟨rfl, hk17_0⟩ | ⟨q17, rfl, hk17_0, hk17_1, hk17_2, hk17_3⟩
            · refine J_istore_n (pc := 54) dX8_evenNow_54 rfl (by decide) rfl ?_
              show J X mX8_evenNow d kc ks 55 [some (.ref 19), some (.int (nI s)), some (.int x16), some (.int (-1))] [] w12 _
              refine J_goto (pc := 55) (tgt := 13) dX8_evenNow_55 (by decide) ?_
              exact J_sub (L' := [some (.ref 19), some (.int (nI s)), some (.int x16), some (.int (nI 0 + Int32.ofInt (-1)))]) ⟨rfl, ⟨rfl, ⟨rfl, ⟨(congrArg (fun z => some (Value.int z)) (by decide : (-1 : Int32) = nI 0 + Int32.ofInt (-1))), trivial⟩⟩⟩⟩ (ihlp13_3 w12 rw12 x16 0 ⟨h19_12, h20_12, h21_12, h22_12, hbb_12, hbl_12, hb3_12⟩ hF12 hgrw12 (by first | assumption | omega) (by exact mu_dec (by assumption) (by omega) (by omega) (by omega)))
            · refine J_istore_n (pc := 54) dX8_evenNow_54 rfl (by decide) rfl ?_
              show J X mX8_evenNow d kc ks 55 [some (.ref 19), some (.int (nI s)), some (.int x16), some (.int (nI q17))] [] w12 _
              refine J_goto (pc := 55) (tgt := 13) dX8_evenNow_55 (by decide) ?_
              exact J_sub (L' := [some (.ref 19), some (.int (nI s)), some (.int x16), some (.int (nI (q17 + 1) + Int32.ofInt (-1)))]) ⟨rfl, ⟨rfl, ⟨rfl, ⟨(congrArg (fun z => some (Value.int z)) (nI_n1 q17)), trivial⟩⟩⟩⟩ (ihlp13_3 w12 rw12 x16 (q17 + 1) ⟨h19_12, h20_12, h21_12, h22_12, hbb_12, hbl_12, hb3_12⟩ hF12 hgrw12 (by first | assumption | omega) (by exact mu_dec (by assumption) (by omega) (by omega) (by omega)))
          · refine J_iconst (pc := 40) (v := nI 1) dX8_evenNow_40 (by decide) ?_
            refine J_goto (pc := 41) (tgt := 45) dX8_evenNow_41 (by decide) ?_
            refine J_iadd (pc := 45) dX8_evenNow_45 (J_absI fun x18 => ?_)
            refine J_istore_n (pc := 46) dX8_evenNow_46 rfl (by decide) rfl ?_
            show J X mX8_evenNow d kc ks 47 [some (.ref 19), some (.int (nI s)), some (.int x18), some (.int (nI (c3 - 1)))] [] w12 _
            refine J_aload_n (pc := 47) dX8_evenNow_47 rfl rfl rfl ?_
            refine J_iload_n (pc := 48) dX8_evenNow_48 rfl rfl ?_
            refine J_iconst (pc := 49) (v := nI 1) dX8_evenNow_49 (by decide) ?_
            refine J_iaddN (pc := 50) dX8_evenNow_50 ?_
            refine J_callV0 (pc := 51) (M := mX8_evenNow) (as := [.int (nI ((c3 - 1) + 1))]) dX8_evenNow_51 fw_X8_from fl_X8_137 fm_X8_from fe_X8_from h19_12 (by decide) rfl rfl rfl (c_X8_from hs (d := d - 1) (Nat.le_trans (by decide) hdm) (w := w12) (n := n) (mv := mv) (rw := rw12) (nx := nx) (b := b) (bt := bt) (kn := kn) (en := en) (dn := dn) (rf := rf) (kk := kk) (th := th) ⟨h19_12, h20_12, h21_12, h22_12, hbb_12, hbl_12, hb3_12⟩ hn1 hn2 gm hgrw12 gx ((c3 - 1) + 1) (by first | assumption | omega) (kc := 0) (ks := 0)) hdp (st := []) (Nat.le_of_ble_eq_true rfl) rfl (kr_P fun v19 hv19 => ?_) kx_I
            rcases hv19 with ⟨rfl, hk19_0⟩ | ⟨q19, rfl, hk19_0, hk19_1, hk19_2, hk19_3⟩
            · refine J_istore_n (pc := 54) dX8_evenNow_54 rfl (by decide) rfl ?_
              show J X mX8_evenNow d kc ks 55 [some (.ref 19), some (.int (nI s)), some (.int x18), some (.int (-1))] [] w12 _
              refine J_goto (pc := 55) (tgt := 13) dX8_evenNow_55 (by decide) ?_
              exact J_sub (L' := [some (.ref 19), some (.int (nI s)), some (.int x18), some (.int (nI 0 + Int32.ofInt (-1)))]) ⟨rfl, ⟨rfl, ⟨rfl, ⟨(congrArg (fun z => some (Value.int z)) (by decide : (-1 : Int32) = nI 0 + Int32.ofInt (-1))), trivial⟩⟩⟩⟩ (ihlp13_3 w12 rw12 x18 0 ⟨h19_12, h20_12, h21_12, h22_12, hbb_12, hbl_12, hb3_12⟩ hF12 hgrw12 (by first | assumption | omega) (by exact mu_dec (by assumption) (by omega) (by omega) (by omega)))
            · refine J_istore_n (pc := 54) dX8_evenNow_54 rfl (by decide) rfl ?_
              show J X mX8_evenNow d kc ks 55 [some (.ref 19), some (.int (nI s)), some (.int x18), some (.int (nI q19))] [] w12 _
              refine J_goto (pc := 55) (tgt := 13) dX8_evenNow_55 (by decide) ?_
              exact J_sub (L' := [some (.ref 19), some (.int (nI s)), some (.int x18), some (.int (nI (q19 + 1) + Int32.ofInt (-1)))]) ⟨rfl, ⟨rfl, ⟨rfl, ⟨(congrArg (fun z => some (Value.int z)) (nI_n1 q19)), trivial⟩⟩⟩⟩ (ihlp13_3 w12 rw12 x18 (q19 + 1) ⟨h19_12, h20_12, h21_12, h22_12, hbb_12, hbl_12, hb3_12⟩ hF12 hgrw12 (by first | assumption | omega) (by exact mu_dec (by assumption) (by omega) (by omega) (by omega)))
    exact J_sub (L' := [some (.ref 19), some (.int (nI s)), some (.int (nI 0)), some (.int (nI 0 + Int32.ofInt (-1)))]) ⟨rfl, ⟨rfl, ⟨rfl, ⟨(congrArg (fun z => some (Value.int z)) (by decide : (-1 : Int32) = nI 0 + Int32.ofInt (-1))), trivial⟩⟩⟩⟩ (lp13_3 _ w rw (nI 0) 0 ⟨h19, h20, h21, h22, hbb, hbl, hb3⟩ hF gr (by first | assumption | omega) (Nat.lt_succ_self _))
  · refine J_istore_n (pc := 12) dX8_evenNow_12 rfl (by decide) rfl ?_
    show J X mX8_evenNow d kc ks 13 [some (.ref 19), some (.int (nI s)), some (.int (nI 0)), some (.int (nI q2))] [] w _
    have lp13_20 : ∀ (fuel : Nat) (w21 : List jC) (rw_13 : Nat → Nat) (z2 : Int32) (c3 : Nat), (RM n mv rw_13 nx b bt kn en dn rf kk th w21) → (FR b b w w21) → (∀ i, rw_13 i < 7) → (c3 ≤ fc n) → (mu (fc n) c3 < fuel) → J X mX8_evenNow d kc ks 13 [some (.ref 19), some (.int (nI s)), some (.int z2), some (.int (nI c3 + Int32.ofInt (-1)))] [] w21 (pI (fun _ => True) (fun w' => ∃ (rw' : Nat → Nat), RM n mv rw' nx b bt kn en dn rf kk th w' ∧ FR b b w w' ∧ (∀ i, rw' i < 7))) := by
      intro fuellp13_20
      induction fuellp13_20 with
      | zero => intros; omega
      | succ fuellp13_20 ihlp13_20 =>
        intro w21 rw_13 z2 c3 hR22 hF23 gr24 hv13_0 hf25
        obtain ⟨h19_26, h20_26, h21_26, h22_26, hb_26, hbl_26, hb3_26⟩ := hR22
        refine J_iload_n (pc := 13) dX8_evenNow_13 rfl rfl ?_
        refine J_if_ltM (pc := 14) (tgt := 58) dX8_evenNow_14 (by decide) (by omega) (fun ht27 => ?_) (fun hf28 => ?_)
        · refine J_iload_n (pc := 58) dX8_evenNow_58 rfl rfl ?_
          exact J_iret (pc := 59) dX8_evenNow_59 rfl ⟨trivial, ⟨rw_13, ⟨h19_26, h20_26, h21_26, h22_26, hb_26, hbl_26, hb3_26⟩, hF23, gr24⟩⟩
        · rw [nI_m1 hf28]
          refine J_aload_n (pc := 17) dX8_evenNow_17 rfl rfl rfl ?_
          refine J_iload_n (pc := 18) dX8_evenNow_18 rfl rfl ?_
          refine J_aload_n (pc := 19) dX8_evenNow_19 rfl rfl rfl ?_
          refine J_get (pc := 20) (k := 2) dX8_evenNow_20 kC9 (by decide) ff_X8_17 h19_26 rfl ?_
          refine J_callV0 (pc := 23) (M := mX8_evenNow) (as := [.int (nI (c3 - 1)), .ref 21]) dX8_evenNow_23 fw_X8_rowOf fl_X8_78 fm_X8_rowOf fe_X8_rowOf h19_26 (by decide) rfl rfl rfl (c_X8_rowOf hs (d := d - 1) (Nat.le_trans (by decide) hdm) (w := w21) (n := n) (mv := mv) (rw := rw_13) (nx := nx) (b := b) (bt := bt) (kn := kn) (en := en) (dn := dn) (rf := rf) (kk := kk) (th := th) ⟨h19_26, h20_26, h21_26, h22_26, hb_26, hbl_26, hb3_26⟩ hn1 hn2 gm gr24 gx (c3 - 1) (by first | assumption | omega) (kc := 0) (ks := 0)) hdp (st := []) (Nat.le_of_ble_eq_true rfl) rfl (kr_V fun w29 hw29 => ?_) kx_V
          obtain ⟨rw29, hR29, hFc29, hgrw29, hp29_0⟩ := hw29
          obtain ⟨h19_29, h20_29, h21_29, h22_29, hbb_29, hbl_29, hb3_29⟩ := hR29
          have hF29 := hF23.tr hFc29
          refine J_iload_n (pc := 26) dX8_evenNow_26 rfl rfl ?_
          refine J_aload_n (pc := 27) dX8_evenNow_27 rfl rfl rfl ?_
          refine J_aload_n (pc := 28) dX8_evenNow_28 rfl rfl rfl ?_
          refine J_get (pc := 29) (k := 2) dX8_evenNow_29 kC9 (by decide) ff_X8_17 h19_29 rfl ?_
          refine J_iconst (pc := 32) (v := nI 0) dX8_evenNow_32 (by decide) ?_
          refine J_callV0 (pc := 33) (M := mX8_evenNow) (as := [.ref 21, .int (nI 0)]) dX8_evenNow_33 fw_X8_signOf fl_X8_115 fm_X8_signOf fe_X8_signOf h19_29 (by decide) rfl rfl rfl (c_X8_signOf_at21 hs (d := d - 1) (Nat.le_trans (by decide) hdm) (w := w29) (n := n) (mv := mv) (rw := rw29) (nx := nx) (b := b) (bt := bt) (kn := kn) (en := en) (dn := dn) (rf := rf) (kk := kk) (th := th) ⟨h19_29, h20_29, h21_29, h22_29, hbb_29, hbl_29, hb3_29⟩ hn1 hn2 gm hgrw29 gx 0 (by first | assumption | omega) (kc := 0) (ks := 0)) hdp (st := [.int z2]) (Nat.le_of_ble_eq_true rfl) rfl (kr_P fun v30 hv30 => ?_) kx_I
          refine J_iconst (pc := 36) (v := nI 1) dX8_evenNow_36 (by decide) ?_
          refine J_icmp_ne (pc := 37) (tgt := 44) dX8_evenNow_37 (by decide) (fun ht31 => ?_) (fun hf32 => ?_)
          · refine J_iconst (pc := 44) (v := nI 0) dX8_evenNow_44 (by decide) ?_
            refine J_iadd (pc := 45) dX8_evenNow_45 (J_absI fun x33 => ?_)
            refine J_istore_n (pc := 46) dX8_evenNow_46 rfl (by decide) rfl ?_
            show J X mX8_evenNow d kc ks 47 [some (.ref 19), some (.int (nI s)), some (.int x33), some (.int (nI (c3 - 1)))] [] w29 _
            refine J_aload_n (pc := 47) dX8_evenNow_47 rfl rfl rfl ?_
            refine J_iload_n (pc := 48) dX8_evenNow_48 rfl rfl ?_
            refine J_iconst (pc := 49) (v := nI 1) dX8_evenNow_49 (by decide) ?_
            refine J_iaddN (pc := 50) dX8_evenNow_50 ?_
            refine J_callV0 (pc := 51) (M := mX8_evenNow) (as := [.int (nI ((c3 - 1) + 1))]) dX8_evenNow_51 fw_X8_from fl_X8_137 fm_X8_from fe_X8_from h19_29 (by decide) rfl rfl rfl (c_X8_from hs (d := d - 1) (Nat.le_trans (by decide) hdm) (w := w29) (n := n) (mv := mv) (rw := rw29) (nx := nx) (b := b) (bt := bt) (kn := kn) (en := en) (dn := dn) (rf := rf) (kk := kk) (th := th) ⟨h19_29, h20_29, h21_29, h22_29, hbb_29, hbl_29, hb3_29⟩ hn1 hn2 gm hgrw29 gx ((c3 - 1) + 1) (by first | assumption | omega) (kc := 0) (ks := 0)) hdp (st := []) (Nat.le_of_ble_eq_true rfl) rfl (kr_P fun v34 hv34 => ?_) kx_I
            rcases hv34 with ⟨rfl, hk34_0⟩ | ⟨q34, rfl, hk34_0, hk34_1, hk34_2, hk34_3⟩
            · refine J_istore_n (pc := 54) dX8_evenNow_54 rfl (by decide) rfl ?_
              show J X mX8_evenNow d kc ks 55 [some (.ref 19), some (.int (nI s)), some (.int x33), some (.int (-1))] [] w29 _
              refine J_goto (pc := 55) (tgt := 13) dX8_evenNow_55 (by decide) ?_
              exact J_sub (L' := [some (.ref 19), some (.int (nI s)), some (.int x33), some (.int (nI 0 + Int32.ofInt (-1)))]) ⟨rfl, ⟨rfl, ⟨rfl, ⟨(congrArg (fun z => some (Value.int z)) (by decide : (-1 : Int32) = nI 0 + Int32.ofInt (-1))), trivial⟩⟩⟩⟩ (ihlp13_20 w29 rw29 x33 0 ⟨h19_29, h20_29, h21_29, h22_29, hbb_29, hbl_29, hb3_29⟩ hF29 hgrw29 (by first | assumption | omega) (by exact mu_dec (by assumption) (by omega) (by omega) (by omega)))
            · refine J_istore_n (pc := 54) dX8_evenNow_54 rfl (by decide) rfl ?_
              show J X mX8_evenNow d kc ks 55 [some (.ref 19), some (.int (nI s)), some (.int x33), some (.int (nI q34))] [] w29 _
              refine J_goto (pc := 55) (tgt := 13) dX8_evenNow_55 (by decide) ?_
              exact J_sub (L' := [some (.ref 19), some (.int (nI s)), some (.int x33), some (.int (nI (q34 + 1) + Int32.ofInt (-1)))]) ⟨rfl, ⟨rfl, ⟨rfl, ⟨(congrArg (fun z => some (Value.int z)) (nI_n1 q34)), trivial⟩⟩⟩⟩ (ihlp13_20 w29 rw29 x33 (q34 + 1) ⟨h19_29, h20_29, h21_29, h22_29, hbb_29, hbl_29, hb3_29⟩ hF29 hgrw29 (by first | assumption | omega) (by exact mu_dec (by assumption) (by omega) (by omega) (by omega)))
          · refine J_iconst (pc := 40) (v := nI 1) dX8_evenNow_40 (by decide) ?_
            refine J_goto (pc := 41) (tgt := 45) dX8_evenNow_41 (by decide) ?_
            refine J_iadd (pc := 45) dX8_evenNow_45 (J_absI fun x35 => ?_)
            refine J_istore_n (pc := 46) dX8_evenNow_46 rfl (by decide) rfl ?_
            show J X mX8_evenNow d kc ks 47 [some (.ref 19), some (.int (nI s)), some (.int x35), some (.int (nI (c3 - 1)))] [] w29 _
            refine J_aload_n (pc := 47) dX8_evenNow_47 rfl rfl rfl ?_
            refine J_iload_n (pc := 48) dX8_evenNow_48 rfl rfl ?_
            refine J_iconst (pc := 49) (v := nI 1) dX8_evenNow_49 (by decide) ?_
            refine J_iaddN (pc := 50) dX8_evenNow_50 ?_
            refine J_callV0 (pc := 51) (M := mX8_evenNow) (as := [.int (nI ((c3 - 1) + 1))]) dX8_evenNow_51 fw_X8_from fl_X8_137 fm_X8_from fe_X8_from h19_29 (by decide) rfl rfl rfl (c_X8_from hs (d := d - 1) (Nat.le_trans (by decide) hdm) (w := w29) (n := n) (mv := mv) (rw := rw29) (nx := nx) (b := b) (bt := bt) (kn := kn) (en := en) (dn := dn) (rf := rf) (kk := kk) (th := th) ⟨h19_29, h20_29, h21_29, h22_29, hbb_29, hbl_29, hb3_29⟩ hn1 hn2 gm hgrw29 gx ((c3 - 1) + 1) (by first | assumption | omega) (kc := 0) (ks := 0)) hdp (st := []) (Nat.le_of_ble_eq_true rfl) rfl (kr_P fun v36 hv36 => ?_) kx_I
            rcases hv36 with ⟨rfl, hk36_0⟩ | ⟨q36, rfl, hk36_0, hk36_1, hk36_2, hk36_3⟩
            · refine J_istore_n (pc := 54) dX8_evenNow_54 rfl (by decide) rfl ?_
              show J X mX8_evenNow d kc ks 55 [some (.ref 19), some (.int (nI s)), some (.int x35), some (.int (-1))] [] w29 _
              refine J_goto (pc := 55) (tgt := 13) dX8_evenNow_55 (by decide) ?_
              exact J_sub (L' := [some (.ref 19), some (.int (nI s)), some (.int x35), some (.int (nI 0 + Int32.ofInt (-1)))]) ⟨rfl, ⟨rfl, ⟨rfl, ⟨(congrArg (fun z => some (Value.int z)) (by decide : (-1 : Int32) = nI 0 + Int32.ofInt (-1))), trivial⟩⟩⟩⟩ (ihlp13_20 w29 rw29 x35 0 ⟨h19_29, h20_29, h21_29, h22_29, hbb_29, hbl_29, hb3_29⟩ hF29 hgrw29 (by first | assumption | omega) (by exact mu_dec (by assumption) (by omega) (by omega) (by omega)))
            · refine J_istore_n (pc := 54) dX8_evenNow_54 rfl (by decide) rfl ?_
              show J X mX8_evenNow d kc ks 55 [some (.ref 19), some (.int (nI s)), some (.int x35), some (.int (nI q36))] [] w29 _
              refine J_goto (pc := 55) (tgt := 13) dX8_evenNow_55 (by decide) ?_
              exact J_sub (L' := [some (.ref 19), some (.int (nI s)), some (.int x35), some (.int (nI (q36 + 1) + Int32.ofInt (-1)))]) ⟨rfl, ⟨rfl, ⟨rfl, ⟨(congrArg (fun z => some (Value.int z)) (nI_n1 q36)), trivial⟩⟩⟩⟩ (ihlp13_20 w29 rw29 x35 (q36 + 1) ⟨h19_29, h20_29, h21_29, h22_29, hbb_29, hbl_29, hb3_29⟩ hF29 hgrw29 (by first | assumption | omega) (by exact mu_dec (by assumption) (by omega) (by omega) (by omega)))
    exact J_sub (L' := [some (.ref 19), some (.int (nI s)), some (.int (nI 0)), some (.int (nI (q2 + 1) + Int32.ofInt (-1)))]) ⟨rfl, ⟨rfl, ⟨rfl, ⟨(congrArg (fun z => some (Value.int z)) (nI_n1 q2)), trivial⟩⟩⟩⟩ (lp13_20 _ w rw (nI 0) (q2 + 1) ⟨h19, h20, h21, h22, hbb, hbl, hb3⟩ hF gr (by first | assumption | omega) (Nat.lt_succ_self _))
