/-! contracts of the reference: rspec4 -/
set_option maxRecDepth 100000 in
set_option maxHeartbeats 40000000 in
theorem c_X8_withOrder {X : jX} (hs : X.1.stackTraces = false) {d : Nat} (hd : 10 ≤ d) {n : Nat} {mv rw nx : Nat → Nat} {b : Nat} {bt : List Int32} {kn en dn rf kk th : Int32} {w : List jC} (hR : RM n mv rw nx b bt kn en dn rf kk th w) (hn1 : 2 ≤ n) (hn2 : n ≤ 7) (gm : ∀ i, mv i < 7) (gr : ∀ i, rw i < 7) (gx : ∀ i, nx i < 7) (s : Int32) (c : Int32) (hy0 : PM n mv) (hy1 : KX n mv kn bt) {kc ks : Nat} (hkc : 13 ≤ kc) (hks : 2054 ≤ ks) : jMet X mX8_withOrder d kc ks [.ref 19, .int s, .int c] w (pI (fun _ => True) (fun w' => ∃ (rw' : Nat → Nat), ∃ (nx' : Nat → Nat), ∃ (b' : Nat), ∃ (bt' : List Int32), ∃ (kn' : Int32), ∃ (en' : Int32), ∃ (th' : Int32), RM n mv rw' nx' b' bt' kn' en' dn rf kk th' w' ∧ FR b b' w w' ∧ (∀ i, rw' i < 7) ∧ (∀ i, nx' i < 7) ∧ KX n mv kn' bt')) := by
  refine jMet_of hs (by decide +kernel) (Nat.le_of_ble_eq_true rfl) (L := [some (.ref 19), some (.int s), some (.int c), none, none]) rfl ?_
  have hdm : 9 ≤ d - 1 := by omega
  have hdp : d - 1 + 1 ≤ d := by omega
  have hfc := fc_7 hn2
  have hfp := fc_pos n
  obtain ⟨h19, h20, h21, h22, hbb, hbl, hb3⟩ := hR
  have hF : FR b b w w := FR.rf
  refine J_aload_n (pc := 0) dX8_withOrder_0 rfl rfl rfl ?_
  refine J_iload_n (pc := 1) dX8_withOrder_1 rfl rfl ?_
  refine J_callS0 (pc := 2) (M := mX8_withOrder) (as := [.int s]) dX8_withOrder_2 fw_X8_isSet fl_X8_134 fs_X8_isSet rfl (c_X8_isSet hs (d := d - 1) (Nat.le_trans (by decide) hdm) (w := w) s (kc := 0) (ks := 0)) hdp (st := [.ref 19]) (Nat.le_of_ble_eq_true rfl) rfl (kr_P fun v1 hv1 => ?_) kx_I
  rcases hv1 with ⟨rfl, hk1_0⟩ | ⟨q1, rfl, hk1_0, rfl⟩
  · refine J_if_eqN (pc := 5) (tgt := 19) dX8_withOrder_5 (by decide) (by decide) (fun _ => ?_) (fun h => absurd h (by decide))
    refine J_iconst (pc := 19) (v := nI 1) dX8_withOrder_19 (by decide) ?_
    refine J_goto (pc := 20) (tgt := 24) dX8_withOrder_20 (by decide) ?_
    refine J_callV0 (pc := 24) (M := mX8_withOrder) (as := [.int (nI 1)]) dX8_withOrder_24 fw_X8_isThrown_ fl_X8_105 fm_X8_isThrown_ fe_X8_isThrown_ h19 (by decide) rfl rfl rfl (c_X8_isThrown_ hs (d := d - 1) (Nat.le_trans (by decide) hdm) (w := w) (n := n) (mv := mv) (rw := rw) (nx := nx) (b := b) (bt := bt) (kn := kn) (en := en) (dn := dn) (rf := rf) (kk := kk) (th := th) ⟨h19, h20, h21, h22, hbb, hbl, hb3⟩ hn1 hn2 gm gr gx 1 (by first | assumption | omega) (kc := 0) (ks := 0)) hdp (st := []) (Nat.le_of_ble_eq_true rfl) rfl (kr_I fun v2 w2 hv2 hw2 => ?_) kx_I
    obtain ⟨hR2, hFc2⟩ := hw2
    obtain ⟨h19_2, h20_2, h21_2, h22_2, hbb_2, hbl_2, hb3_2⟩ := hR2
    have hF2 := hF.tr hFc2
    subst hv2
    show J X mX8_withOrder d kc ks 27 [some (.ref 19), some (.int s), some (.int c), none, none] [.int (nI 1)] w2 _
    refine J_if_eqN (pc := 27) (tgt := 32) dX8_withOrder_27 (by decide) (by decide) (fun h => absurd h (by decide)) (fun _ => ?_)
    refine J_iconst (pc := 30) (v := nI 0) dX8_withOrder_30 (by decide) ?_
    exact J_iret (pc := 31) dX8_withOrder_31 rfl ⟨trivial, ⟨rw, nx, b, bt, kn, en, nI (tW 1 0), ⟨h19_2, h20_2, h21_2, h22_2, hbb_2, hbl_2, hb3_2⟩, hF2, gr, gx, (by first | assumption | exact KX_i (by assumption) (by omega) (by first | rfl | assumption))⟩⟩
  · refine J_if_eqN (pc := 5) (tgt := 19) dX8_withOrder_5 (by decide) (by decide) (fun h => absurd h (by decide)) (fun _ => ?_)
    refine J_iload_n (pc := 8) dX8_withOrder_8 rfl rfl ?_
    refine J_iconst (pc := 9) (v := nI 1) dX8_withOrder_9 (by decide) ?_
    refine J_icmp_lt (pc := 10) (tgt := 19) dX8_withOrder_10 (by decide) (fun ht3 => ?_) (fun hf4 => ?_)
    · refine J_iconst (pc := 19) (v := nI 1) dX8_withOrder_19 (by decide) ?_
      refine J_goto (pc := 20) (tgt := 24) dX8_withOrder_20 (by decide) ?_
      refine J_callV0 (pc := 24) (M := mX8_withOrder) (as := [.int (nI 1)]) dX8_withOrder_24 fw_X8_isThrown_ fl_X8_105 fm_X8_isThrown_ fe_X8_isThrown_ h19 (by decide) rfl rfl rfl (c_X8_isThrown_ hs (d := d - 1) (Nat.le_trans (by decide) hdm) (w := w) (n := n) (mv := mv) (rw := rw) (nx := nx) (b := b) (bt := bt) (kn := kn) (en := en) (dn := dn) (rf := rf) (kk := kk) (th := th) ⟨h19, h20, h21, h22, hbb, hbl, hb3⟩ hn1 hn2 gm gr gx 1 (by first | assumption | omega) (kc := 0) (ks := 0)) hdp (st := []) (Nat.le_of_ble_eq_true rfl) rfl (kr_I fun v5 w5 hv5 hw5 => ?_) kx_I
      obtain ⟨hR5, hFc5⟩ := hw5
      obtain ⟨h19_5, h20_5, h21_5, h22_5, hbb_5, hbl_5, hb3_5⟩ := hR5
      have hF5 := hF.tr hFc5
      subst hv5
      show J X mX8_withOrder d kc ks 27 [some (.ref 19), some (.int (nI q1)), some (.int c), none, none] [.int (nI 1)] w5 _
      refine J_if_eqN (pc := 27) (tgt := 32) dX8_withOrder_27 (by decide) (by decide) (fun h => absurd h (by decide)) (fun _ => ?_)
      refine J_iconst (pc := 30) (v := nI 0) dX8_withOrder_30 (by decide) ?_
      exact J_iret (pc := 31) dX8_withOrder_31 rfl ⟨trivial, ⟨rw, nx, b, bt, kn, en, nI (tW 1 0), ⟨h19_5, h20_5, h21_5, h22_5, hbb_5, hbl_5, hb3_5⟩, hF5, gr, gx, (by first | assumption | exact KX_i (by assumption) (by omega) (by first | rfl | assumption))⟩⟩
    · refine J_iload_n (pc := 13) dX8_withOrder_13 rfl rfl ?_
      refine J_bipush (pc := 14) (v := nI 12) dX8_withOrder_14 (by decide) ?_
      refine J_icmp_le (pc := 16) (tgt := 23) dX8_withOrder_16 (by decide) (fun ht6 => ?_) (fun hf7 => ?_)
      · refine J_iconst (pc := 23) (v := nI 0) dX8_withOrder_23 (by decide) ?_
        refine J_callV0 (pc := 24) (M := mX8_withOrder) (as := [.int (nI 0)]) dX8_withOrder_24 fw_X8_isThrown_ fl_X8_105 fm_X8_isThrown_ fe_X8_isThrown_ h19 (by decide) rfl rfl rfl (c_X8_isThrown_ hs (d := d - 1) (Nat.le_trans (by decide) hdm) (w := w) (n := n) (mv := mv) (rw := rw) (nx := nx) (b := b) (bt := bt) (kn := kn) (en := en) (dn := dn) (rf := rf) (kk := kk) (th := th) ⟨h19, h20, h21, h22, hbb, hbl, hb3⟩ hn1 hn2 gm gr gx 0 (by first | assumption | omega) (kc := 0) (ks := 0)) hdp (st := []) (Nat.le_of_ble_eq_true rfl) rfl (kr_I fun v8 w8 hv8 hw8 => ?_) kx_I
        obtain ⟨hR8, hFc8⟩ := hw8
        obtain ⟨h19_8, h20_8, h21_8, h22_8, hbb_8, hbl_8, hb3_8⟩ := hR8
        have hF8 := hF.tr hFc8
        subst hv8
        show J X mX8_withOrder d kc ks 27 [some (.ref 19), some (.int (nI q1)), some (.int c), none, none] [.int (nI 0)] w8 _
        refine J_if_eqN (pc := 27) (tgt := 32) dX8_withOrder_27 (by decide) (by decide) (fun _ => ?_) (fun h => absurd h (by decide))
        refine J_aload_n (pc := 32) dX8_withOrder_32 rfl rfl rfl ?_
        refine J_iload_n (pc := 33) dX8_withOrder_33 rfl rfl ?_
        refine J_callV (pc := 34) (M := mX8_withOrder) (as := [.int (nI q1)]) dX8_withOrder_34 fw_X8_group fl_X8_99 fm_X8_group fe_X8_group h19_8 (by decide) rfl rfl rfl (c_X8_group_ate hs (d := d - 1) (Nat.le_trans (by decide) hdm) (w := w8) (n := n) (mv := mv) (rw := rw) (nx := nx) (b := b) (bt := bt) (kn := kn) (en := en) (dn := dn) (rf := rf) (kk := kk) (th := nI (tW 0 0)) ⟨h19_8, h20_8, h21_8, h22_8, hbb_8, hbl_8, hb3_8⟩ hn1 hn2 gm gr gx q1 (by first | assumption | omega) (by first | assumption | omega) (by first | assumption | omega) (kc := 13) (ks := 2054) (Nat.le_refl _) (Nat.le_refl _)) hdp (by omega) (by omega) (st := []) (Nat.le_of_ble_eq_true rfl) rfl (kr_V fun w9 hw9 => ?_) kx_V
        obtain ⟨rw9, nx9, b9, bt9, kn9, en9, hR9, hFc9, hgrw9, hgnx9, hp9_0, hp9_1⟩ := hw9
        obtain ⟨h19_9, h20_9, h21_9, h22_9, hbb_9, hbl_9, hb3_9⟩ := hR9
        have qd9 := hFc9.2.1
        have hF9 := hF8.tr hFc9
        refine J_iconst (pc := 37) (v := nI 0) dX8_withOrder_37 (by decide) ?_
        refine J_istore_n (pc := 38) dX8_withOrder_38 rfl (by decide) rfl ?_
        show J X mX8_withOrder d (kc - 13) (ks - 2054) 39 [some (.ref 19), some (.int (nI q1)), some (.int c), some (.int (nI 0)), none] [] w9 _
        refine J_aload_n (pc := 39) dX8_withOrder_39 rfl rfl rfl ?_
        refine J_iconst (pc := 40) (v := nI 0) dX8_withOrder_40 (by decide) ?_
        refine J_callV0 (pc := 41) (M := mX8_withOrder) (as := [.int (nI 0)]) dX8_withOrder_41 fw_X8_from fl_X8_137 fm_X8_from fe_X8_from h19_9 (by decide) rfl rfl rfl (c_X8_from hs (d := d - 1) (Nat.le_trans (by decide) hdm) (w := w9) (n := n) (mv := mv) (rw := rw9) (nx := nx9) (b := b9) (bt := bt9) (kn := kn9) (en := en9) (dn := dn) (rf := rf) (kk := kk) (th := nI (tW 0 0)) ⟨h19_9, h20_9, h21_9, h22_9, hbb_9, hbl_9, hb3_9⟩ hn1 hn2 gm hgrw9 hgnx9 0 (by first | assumption | omega) (kc := 0) (ks := 0)) hdp (st := []) (Nat.le_of_ble_eq_true rfl) rfl (kr_P fun v10 hv10 => ?_) kx_I
        rcases hv10 with ⟨rfl, hk10_0⟩ | ⟨q10, rfl, hk10_0, hk10_1, hk10_2, hk10_3⟩
        · refine J_istore (pc := 44) dX8_withOrder_44 (by decide) rfl ?_
          show J X mX8_withOrder d (kc - 13) (ks - 2054) 46 [some (.ref 19), some (.int (nI q1)), some (.int c), some (.int (nI 0)), some (.int (-1))] [] w9 _
          have lp46_11 : ∀ (fuel : Nat) (w12 : List jC) (rw_46 : Nat → Nat) (z3 : Int32) (c4 : Nat), (RM n mv rw_46 nx9 b9 bt9 kn9 en9 dn rf kk (nI (tW 0 0)) w12) → (FR b b9 w w12) → (∀ i, rw_46 i < 7) → (c4 ≤ fc n) → (mu (fc n) c4 < fuel) → J X mX8_withOrder d (kc - 13) (ks - 2054) 46 [some (.ref 19), some (.int (nI q1)), some (.int c), some (.int z3), some (.int (nI c4 + Int32.ofInt (-1)))] [] w12 (pI (fun _ => True) (fun w' => ∃ (rw' : Nat → Nat), ∃ (nx' : Nat → Nat), ∃ (b' : Nat), ∃ (bt' : List Int32), ∃ (kn' : Int32), ∃ (en' : Int32), ∃ (th' : Int32), RM n mv rw' nx' b' bt' kn' en' dn rf kk th' w' ∧ FR b b' w w' ∧ (∀ i, rw' i < 7) ∧ (∀ i, nx' i < 7) ∧ KX n mv kn' bt')) := by
            intro fuellp46_11
            induction fuellp46_11 with
            | zero => intros; omega
            | succ fuellp46_11 ihlp46_11 =>
              intro w12 rw_46 z3 c4 hR13 hF14 gr15 hv46_0 hf16
              obtain ⟨h19_17, h20_17, h21_17, h22_17, hb_17, hbl_17, hb3_17⟩ := hR13
              refine J_iload (pc := 46) dX8_withOrder_46 rfl ?_
              refine J_if_ltM (pc := 48) (tgt := 95) dX8_withOrder_48 (by decide) (by omega) (fun ht18 => ?_) (fun hf19 => ?_)
              · refine J_iload_n (pc := 95) dX8_withOrder_95 rfl rfl ?_
                exact J_iret (pc := 96) dX8_withOrder_96 rfl ⟨trivial, ⟨rw_46, nx9, b9, bt9, kn9, en9, nI (tW 0 0), ⟨h19_17, h20_17, h21_17, h22_17, hb_17, hbl_17, hb3_17⟩, hF14, gr15, hgnx9, (by first | assumption | exact KX_i (by assumption) (by omega) (by first | rfl | assumption))⟩⟩
              · rw [nI_m1 hf19]
                refine J_aload_n (pc := 51) dX8_withOrder_51 rfl rfl rfl ?_
                refine J_iload (pc := 52) dX8_withOrder_52 rfl ?_
                refine J_aload_n (pc := 54) dX8_withOrder_54 rfl rfl rfl ?_
                refine J_get (pc := 55) (k := 2) dX8_withOrder_55 kC9 (by decide) ff_X8_17 h19_17 rfl ?_
                refine J_callV0 (pc := 58) (M := mX8_withOrder) (as := [.int (nI (c4 - 1)), .ref 21]) dX8_withOrder_58 fw_X8_rowOf fl_X8_78 fm_X8_rowOf fe_X8_rowOf h19_17 (by decide) rfl rfl rfl (c_X8_rowOf hs (d := d - 1) (Nat.le_trans (by decide) hdm) (w := w12) (n := n) (mv := mv) (rw := rw_46) (nx := nx9) (b := b9) (bt := bt9) (kn := kn9) (en := en9) (dn := dn) (rf := rf) (kk := kk) (th := nI (tW 0 0)) ⟨h19_17, h20_17, h21_17, h22_17, hb_17, hbl_17, hb3_17⟩ hn1 hn2 gm gr15 hgnx9 (c4 - 1) (by first | assumption | omega) (kc := 0) (ks := 0)) hdp (st := []) (Nat.le_of_ble_eq_true rfl) rfl (kr_V fun w20 hw20 => ?_) kx_V
                obtain ⟨rw20, hR20, hFc20, hgrw20, hp20_0⟩ := hw20
                obtain ⟨h19_20, h20_20, h21_20, h22_20, hbb_20, hbl_20, hb3_20⟩ := hR20
                have hF20 := hF14.tr hFc20
                have hPr := Pn_row (by omega) hp20_0
                refine J_iload_n (pc := 61) dX8_withOrder_61 rfl rfl ?_
                refine J_aload_n (pc := 62) dX8_withOrder_62 rfl rfl rfl ?_
                refine J_aload_n (pc := 63) dX8_withOrder_63 rfl rfl rfl ?_
                refine J_get (pc := 64) (k := 2) dX8_withOrder_64 kC9 (by decide) ff_X8_17 h19_20 rfl ?_
                refine J_iconst (pc := 67) (v := nI 0) dX8_withOrder_67 (by decide) ?_
                refine J_callV0 (pc := 68) (M := mX8_withOrder) (as := [.ref 21, .int (nI 0)]) dX8_withOrder_68 fw_X8_orderOf fl_X8_172 fm_X8_orderOf fe_X8_orderOf h19_20 (by decide) rfl rfl rfl (c_X8_orderOf_at21 hs (d := d - 1) (Nat.le_trans (by decide) hdm) (w := w20) (n := n) (mv := mv) (rw := rw20) (nx := nx9) (b := b9) (bt := bt9) (kn := kn9) (en := en9) (dn := dn) (rf := rf) (kk := kk) (th := nI (tW 0 0)) ⟨h19_20, h20_20, h21_20, h22_20, hbb_20, hbl_20, hb3_20⟩ hn1 hn2 gm hgrw20 hgnx9 0 (by first | assumption | omega) (by exact Pn_z hPr) (kc := 0) (ks := 0)) hdp (st := [.int z3]) (Nat.le_of_ble_eq_true rfl) rfl (kr_P fun v21 hv21 => ?_) kx_I
                obtain ⟨k21, rfl, hk21⟩ := hv21
                refine J_iload_n (pc := 71) dX8_withOrder_71 rfl rfl ?_
                refine J_icmp_ne (pc := 72) (tgt := 79) dX8_withOrder_72 (by decide) (fun ht22 => ?_) (fun hf23 => ?_)
                · refine J_iconst (pc := 79) (v := nI 0) dX8_withOrder_79 (by decide) ?_
                  refine J_iadd (pc := 80) dX8_withOrder_80 (J_absI fun x24 => ?_)
                  refine J_istore_n (pc := 81) dX8_withOrder_81 rfl (by decide) rfl ?_
                  show J X mX8_withOrder d (kc - 13) (ks - 2054) 82 [some (.ref 19), some (.int (nI q1)), some (.int c), some (.int x24), some (.int (nI (c4 - 1)))] [] w20 _
                  refine J_aload_n (pc := 82) dX8_withOrder_82 rfl rfl rfl ?_
                  refine J_iload (pc := 83) dX8_withOrder_83 rfl ?_
                  refine J_iconst (pc := 85) (v := nI 1) dX8_withOrder_85 (by decide) ?_
                  refine J_iaddN (pc := 86) dX8_withOrder_86 ?_
                  refine J_callV0 (pc := 87) (M := mX8_withOrder) (as := [.int (nI ((c4 - 1) + 1))]) dX8_withOrder_87 fw_X8_from fl_X8_137 fm_X8_from fe_X8_from h19_20 (by decide) rfl rfl rfl (c_X8_from hs (d := d - 1) (Nat.le_trans (by decide) hdm) (w := w20) (n := n) (mv := mv) (rw := rw20) (nx := nx9) (b := b9) (bt := bt9) (kn := kn9) (en := en9) (dn := dn) (rf := rf) (kk := kk) (th := nI (tW 0 0)) ⟨h19_20, h20_20, h21_20, h22_20, hbb_20, hbl_20, hb3_20⟩ hn1 hn2 gm hgrw20 hgnx9 ((c4 - 1) + 1) (by first | assumption | omega) (kc := 0) (ks := 0)) hdp (st := []) (Nat.le_of_ble_eq_true rfl) rfl (kr_P fun v25 hv25 => ?_) kx_I
                  rcases hv25 with ⟨rfl, hk25_0⟩ | ⟨q25, rfl, hk25_0, hk25_1, hk25_2, hk25_3⟩
                  · refine J_istore (pc := 90) dX8_withOrder_90 (by decide) rfl ?_
                    show J X mX8_withOrder d (kc - 13) (ks - 2054) 92 [some (.ref 19), some (.int (nI q1)), some (.int c), some (.int x24), some (.int (-1))] [] w20 _
                    refine J_goto (pc := 92) (tgt := 46) dX8_withOrder_92 (by decide) ?_
                    exact J_sub (L' := [some (.ref 19), some (.int (nI q1)), some (.int c), some (.int x24), some (.int (nI 0 + Int32.ofInt (-1)))]) ⟨rfl, ⟨rfl, ⟨rfl, ⟨rfl, ⟨(congrArg (fun z => some (Value.int z)) (by decide : (-1 : Int32) = nI 0 + Int32.ofInt (-1))), trivial⟩⟩⟩⟩⟩ (ihlp46_11 w20 rw20 x24 0 ⟨h19_20, h20_20, h21_20, h22_20, hbb_20, hbl_20, hb3_20⟩ hF20 hgrw20 (by first | assumption | omega) (by exact mu_dec (by assumption) (by omega) (by omega) (by omega)))
                  · refine J_istore (pc := 90) dX8_withOrder_90 (by decide) rfl ?_
                    show J X mX8_withOrder d (kc - 13) (ks - 2054) 92 [some (.ref 19), some (.int (nI q1)), some (.int c), some (.int x24), some (.int (nI q25))] [] w20 _
                    refine J_goto (pc := 92) (tgt := 46) dX8_withOrder_92 (by decide) ?_
                    exact J_sub (L' := [some (.ref 19), some (.int (nI q1)), some (.int c), some (.int x24), some (.int (nI (q25 + 1) + Int32.ofInt (-1)))]) ⟨rfl, ⟨rfl, ⟨rfl, ⟨rfl, ⟨(congrArg (fun z => some (Value.int z)) (nI_n1 q25)), trivial⟩⟩⟩⟩⟩ (ihlp46_11 w20 rw20 x24 (q25 + 1) ⟨h19_20, h20_20, h21_20, h22_20, hbb_20, hbl_20, hb3_20⟩ hF20 hgrw20 (by first | assumption | omega) (by exact mu_dec (by assumption) (by omega) (by omega) (by omega)))
                · refine J_iconst (pc := 75) (v := nI 1) dX8_withOrder_75 (by decide) ?_
                  refine J_goto (pc := 76) (tgt := 80) dX8_withOrder_76 (by decide) ?_
                  refine J_iadd (pc := 80) dX8_withOrder_80 (J_absI fun x26 => ?_)
                  refine J_istore_n (pc := 81) dX8_withOrder_81 rfl (by decide) rfl ?_
                  show J X mX8_withOrder d (kc - 13) (ks - 2054) 82 [some (.ref 19), some (.int (nI q1)), some (.int c), some (.int x26), some (.int (nI (c4 - 1)))] [] w20 _
                  refine J_aload_n (pc := 82) dX8_withOrder_82 rfl rfl rfl ?_
                  refine J_iload (pc := 83) dX8_withOrder_83 rfl ?_
                  refine J_iconst (pc := 85) (v := nI 1) dX8_withOrder_85 (by decide) ?_
                  refine J_iaddN (pc := 86) dX8_withOrder_86 ?_
                  refine J_callV0 (pc := 87) (M := mX8_withOrder) (as := [.int (nI ((c4 - 1) + 1))]) dX8_withOrder_87 fw_X8_from fl_X8_137 fm_X8_from fe_X8_from h19_20 (by decide) rfl rfl rfl (c_X8_from hs (d := d - 1) (Nat.le_trans (by decide) hdm) (w := w20) (n := n) (mv := mv) (rw := rw20) (nx := nx9) (b := b9) (bt := bt9) (kn := kn9) (en := en9) (dn := dn) (rf := rf) (kk := kk) (th := nI (tW 0 0)) ⟨h19_20, h20_20, h21_20, h22_20, hbb_20, hbl_20, hb3_20⟩ hn1 hn2 gm hgrw20 hgnx9 ((c4 - 1) + 1) (by first | assumption | omega) (kc := 0) (ks := 0)) hdp (st := []) (Nat.le_of_ble_eq_true rfl) rfl (kr_P fun v27 hv27 => ?_) kx_I
                  rcases hv27 with ⟨rfl, hk27_0⟩ | ⟨q27, rfl, hk27_0, hk27_1, hk27_2, hk27_3⟩
                  · refine J_istore (pc := 90) dX8_withOrder_90 (by decide) rfl ?_
                    show J X mX8_withOrder d (kc - 13) (ks - 2054) 92 [some (.ref 19), some (.int (nI q1)), some (.int c), some (.int x26), some (.int (-1))] [] w20 _
                    refine J_goto (pc := 92) (tgt := 46) dX8_withOrder_92 (by decide) ?_
                    exact J_sub (L' := [some (.ref 19), some (.int (nI q1)), some (.int c), some (.int x26), some (.int (nI 0 + Int32.ofInt (-1)))]) ⟨rfl, ⟨rfl, ⟨rfl, ⟨rfl, ⟨(congrArg (fun z => some (Value.int z)) (by decide : (-1 : Int32) = nI 0 + Int32.ofInt (-1))), trivial⟩⟩⟩⟩⟩ (ihlp46_11 w20 rw20 x26 0 ⟨h19_20, h20_20, h21_20, h22_20, hbb_20, hbl_20, hb3_20⟩ hF20 hgrw20 (by first | assumption | omega) (by exact mu_dec (by assumption) (by omega) (by omega) (by omega)))
                  · refine J_istore (pc := 90) dX8_withOrder_90 (by decide) rfl ?_
                    show J X mX8_withOrder d (kc - 13) (ks - 2054) 92 [some (.ref 19), some (.int (nI q1)), some (.int c), some (.int x26), some (.int (nI q27))] [] w20 _
                    refine J_goto (pc := 92) (tgt := 46) dX8_withOrder_92 (by decide) ?_
                    exact J_sub (L' := [some (.ref 19), some (.int (nI q1)), some (.int c), some (.int x26), some (.int (nI (q27 + 1) + Int32.ofInt (-1)))]) ⟨rfl, ⟨rfl, ⟨rfl, ⟨rfl, ⟨(congrArg (fun z => some (Value.int z)) (nI_n1 q27)), trivial⟩⟩⟩⟩⟩ (ihlp46_11 w20 rw20 x26 (q27 + 1) ⟨h19_20, h20_20, h21_20, h22_20, hbb_20, hbl_20, hb3_20⟩ hF20 hgrw20 (by first | assumption | omega) (by exact mu_dec (by assumption) (by omega) (by omega) (by omega)))
          exact J_sub (L' := [some (.ref 19), some (.int (nI q1)), some (.int c), some (.int (nI 0)), some (.int (nI 0 + Int32.ofInt (-1)))]) ⟨rfl, ⟨rfl, ⟨rfl, ⟨rfl, ⟨(congrArg (fun z => some (Value.int z)) (by decide : (-1 : Int32) = nI 0 + Int32.ofInt (-1))), trivial⟩⟩⟩⟩⟩ (lp46_11 _ w9 rw9 (nI 0) 0 ⟨h19_9, h20_9, h21_9, h22_9, hbb_9, hbl_9, hb3_9⟩ hF9 hgrw9 (by first | assumption | omega) (Nat.lt_succ_self _))
        · refine J_istore (pc := 44) dX8_withOrder_44 (by decide) rfl ?_
          show J X mX8_withOrder d (kc - 13) (ks - 2054) 46 [some (.ref 19), some (.int (nI q1)), some (.int c), some (.int (nI 0)), some (.int (nI q10))] [] w9 _
          have lp46_28 : ∀ (fuel : Nat) (w29 : List jC) (rw_46 : Nat → Nat) (z3 : Int32) (c4 : Nat), (RM n mv rw_46 nx9 b9 bt9 kn9 en9 dn rf kk (nI (tW 0 0)) w29) → (FR b b9 w w29) → (∀ i, rw_46 i < 7) → (c4 ≤ fc n) → (mu (fc n) c4 < fuel) → J X mX8_withOrder d (kc - 13) (ks - 2054) 46 [some (.ref 19), some (.int (nI q1)), some (.int c), some (.int z3), some (.int (nI c4 + Int32.ofInt (-1)))] [] w29 (pI (fun _ => True) (fun w' => ∃ (rw' : Nat → Nat), ∃ (nx' : Nat → Nat), ∃ (b' : Nat), ∃ (bt' : List Int32), ∃ (kn' : Int32), ∃ (en' : Int32), ∃ (th' : Int32), RM n mv rw' nx' b' bt' kn' en' dn rf kk th' w' ∧ FR b b' w w' ∧ (∀ i, rw' i < 7) ∧ (∀ i, nx' i < 7) ∧ KX n mv kn' bt')) := by
            intro fuellp46_28
            induction fuellp46_28 with
            | zero => intros; omega
            | succ fuellp46_28 ihlp46_28 =>
              intro w29 rw_46 z3 c4 hR30 hF31 gr32 hv46_0 hf33
              obtain ⟨h19_34, h20_34, h21_34, h22_34, hb_34, hbl_34, hb3_34⟩ := hR30
              refine J_iload (pc := 46) dX8_withOrder_46 rfl ?_
              refine J_if_ltM (pc := 48) (tgt := 95) dX8_withOrder_48 (by decide) (by omega) (fun ht35 => ?_) (fun hf36 => ?_)
              · refine J_iload_n (pc := 95) dX8_withOrder_95 rfl rfl ?_
                exact J_iret (pc := 96) dX8_withOrder_96 rfl ⟨trivial, ⟨rw_46, nx9, b9, bt9, kn9, en9, nI (tW 0 0), ⟨h19_34, h20_34, h21_34, h22_34, hb_34, hbl_34, hb3_34⟩, hF31, gr32, hgnx9, (by first | assumption | exact KX_i (by assumption) (by omega) (by first | rfl | assumption))⟩⟩
              · rw [nI_m1 hf36]
                refine J_aload_n (pc := 51) dX8_withOrder_51 rfl rfl rfl ?_
                refine J_iload (pc := 52) dX8_withOrder_52 rfl ?_
                refine J_aload_n (pc := 54) dX8_withOrder_54 rfl rfl rfl ?_
                refine J_get (pc := 55) (k := 2) dX8_withOrder_55 kC9 (by decide) ff_X8_17 h19_34 rfl ?_
                refine J_callV0 (pc := 58) (M := mX8_withOrder) (as := [.int (nI (c4 - 1)), .ref 21]) dX8_withOrder_58 fw_X8_rowOf fl_X8_78 fm_X8_rowOf fe_X8_rowOf h19_34 (by decide) rfl rfl rfl (c_X8_rowOf hs (d := d - 1) (Nat.le_trans (by decide) hdm) (w := w29) (n := n) (mv := mv) (rw := rw_46) (nx := nx9) (b := b9) (bt := bt9) (kn := kn9) (en := en9) (dn := dn) (rf := rf) (kk := kk) (th := nI (tW 0 0)) ⟨h19_34, h20_34, h21_34, h22_34, hb_34, hbl_34, hb3_34⟩ hn1 hn2 gm gr32 hgnx9 (c4 - 1) (by first | assumption | omega) (kc := 0) (ks := 0)) hdp (st := []) (Nat.le_of_ble_eq_true rfl) rfl (kr_V fun w37 hw37 => ?_) kx_V
                obtain ⟨rw37, hR37, hFc37, hgrw37, hp37_0⟩ := hw37
                obtain ⟨h19_37, h20_37, h21_37, h22_37, hbb_37, hbl_37, hb3_37⟩ := hR37
                have hF37 := hF31.tr hFc37
                have hPr := Pn_row (by omega) hp37_0
                refine J_iload_n (pc := 61) dX8_withOrder_61 rfl rfl ?_
                refine J_aload_n (pc := 62) dX8_withOrder_62 rfl rfl rfl ?_
                refine J_aload_n (pc := 63) dX8_withOrder_63 rfl rfl rfl ?_
                refine J_get (pc := 64) (k := 2) dX8_withOrder_64 kC9 (by decide) ff_X8_17 h19_37 rfl ?_
                refine J_iconst (pc := 67) (v := nI 0) dX8_withOrder_67 (by decide) ?_
                refine J_callV0 (pc := 68) (M := mX8_withOrder) (as := [.ref 21, .int (nI 0)]) dX8_withOrder_68 fw_X8_orderOf fl_X8_172 fm_X8_orderOf fe_X8_orderOf h19_37 (by decide) rfl rfl rfl (c_X8_orderOf_at21 hs (d := d - 1) (Nat.le_trans (by decide) hdm) (w := w37) (n := n) (mv := mv) (rw := rw37) (nx := nx9) (b := b9) (bt := bt9) (kn := kn9) (en := en9) (dn := dn) (rf := rf) (kk := kk) (th := nI (tW 0 0)) ⟨h19_37, h20_37, h21_37, h22_37, hbb_37, hbl_37, hb3_37⟩ hn1 hn2 gm hgrw37 hgnx9 0 (by first | assumption | omega) (by exact Pn_z hPr) (kc := 0) (ks := 0)) hdp (st := [.int z3]) (Nat.le_of_ble_eq_true rfl) rfl (kr_P fun v38 hv38 => ?_) kx_I
                obtain ⟨k38, rfl, hk38⟩ := hv38
                refine J_iload_n (pc := 71) dX8_withOrder_71 rfl rfl ?_
                refine J_icmp_ne (pc := 72) (tgt := 79) dX8_withOrder_72 (by decide) (fun ht39 => ?_) (fun hf40 => ?_)
                · refine J_iconst (pc := 79) (v := nI 0) dX8_withOrder_79 (by decide) ?_
                  refine J_iadd (pc := 80) dX8_withOrder_80 (J_absI fun x41 => ?_)
                  refine J_istore_n (pc := 81) dX8_withOrder_81 rfl (by decide) rfl ?_
                  show J X mX8_withOrder d (kc - 13) (ks - 2054) 82 [some (.ref 19), some (.int (nI q1)), some (.int c), some (.int x41), some (.int (nI (c4 - 1)))] [] w37 _
                  refine J_aload_n (pc := 82) dX8_withOrder_82 rfl rfl rfl ?_
                  refine J_iload (pc := 83) dX8_withOrder_83 rfl ?_
                  refine J_iconst (pc := 85) (v := nI 1) dX8_withOrder_85 (by decide) ?_
                  refine J_iaddN (pc := 86) dX8_withOrder_86 ?_
                  refine J_callV0 (pc := 87) (M := mX8_withOrder) (as := [.int (nI ((c4 - 1) + 1))]) dX8_withOrder_87 fw_X8_from fl_X8_137 fm_X8_from fe_X8_from h19_37 (by decide) rfl rfl rfl (c_X8_from hs (d := d - 1) (Nat.le_trans (by decide) hdm) (w := w37) (n := n) (mv := mv) (rw := rw37) (nx := nx9) (b := b9) (bt := bt9) (kn := kn9) (en := en9) (dn := dn) (rf := rf) (kk := kk) (th := nI (tW 0 0)) ⟨h19_37, h20_37, h21_37, h22_37, hbb_37, hbl_37, hb3_37⟩ hn1 hn2 gm hgrw37 hgnx9 ((c4 - 1) + 1) (by first | assumption | omega) (kc := 0) (ks := 0)) hdp (st := []) (Nat.le_of_ble_eq_true rfl) rfl (kr_P fun v42 hv42 => ?_) kx_I
                  rcases hv42 with ⟨rfl, hk42_0⟩ | ⟨q42, rfl, hk42_0, hk42_1, hk42_2, hk42_3⟩
                  · refine J_istore (pc := 90) dX8_withOrder_90 (by decide) rfl ?_
                    show J X mX8_withOrder d (kc - 13) (ks - 2054) 92 [some (.ref 19), some (.int (nI q1)), some (.int c), some (.int x41), some (.int (-1))] [] w37 _
                    refine J_goto (pc := 92) (tgt := 46) dX8_withOrder_92 (by decide) ?_
                    exact J_sub (L' := [some (.ref 19), some (.int (nI q1)), some (.int c), some (.int x41), some (.int (nI 0 + Int32.ofInt (-1)))]) ⟨rfl, ⟨rfl, ⟨rfl, ⟨rfl, ⟨(congrArg (fun z => some (Value.int z)) (by decide : (-1 : Int32) = nI 0 + Int32.ofInt (-1))), trivial⟩⟩⟩⟩⟩ (ihlp46_28 w37 rw37 x41 0 ⟨h19_37, h20_37, h21_37, h22_37, hbb_37, hbl_37, hb3_37⟩ hF37 hgrw37 (by first | assumption | omega) (by exact mu_dec (by assumption) (by omega) (by omega) (by omega)))
                  · refine J_istore (pc := 90) dX8_withOrder_90 (by decide) rfl ?_
                    show J X mX8_withOrder d (kc - 13) (ks - 2054) 92 [some (.ref 19), some (.int (nI q1)), some (.int c), some (.int x41), some (.int (nI q42))] [] w37 _
                    refine J_goto (pc := 92) (tgt := 46) dX8_withOrder_92 (by decide) ?_
                    exact J_sub (L' := [some (.ref 19), some (.int (nI q1)), some (.int c), some (.int x41), some (.int (nI (q42 + 1) + Int32.ofInt (-1)))]) ⟨rfl, ⟨rfl, ⟨rfl, ⟨rfl, ⟨(congrArg (fun z => some (Value.int z)) (nI_n1 q42)), trivial⟩⟩⟩⟩⟩ (ihlp46_28 w37 rw37 x41 (q42 + 1) ⟨h19_37, h20_37, h21_37, h22_37, hbb_37, hbl_37, hb3_37⟩ hF37 hgrw37 (by first | assumption | omega) (by exact mu_dec (by assumption) (by omega) (by omega) (by omega)))
                · refine J_iconst (pc := 75) (v := nI 1) dX8_withOrder_75 (by decide) ?_
                  refine J_goto (pc := 76) (tgt := 80) dX8_withOrder_76 (by decide) ?_
                  refine J_iadd (pc := 80) dX8_withOrder_80 (J_absI fun x43 => ?_)
                  refine J_istore_n (pc := 81) dX8_withOrder_81 rfl (by decide) rfl ?_
                  show J X mX8_withOrder d (kc - 13) (ks - 2054) 82 [some (.ref 19), some (.int (nI q1)), some (.int c), some (.int x43), some (.int (nI (c4 - 1)))] [] w37 _
                  refine J_aload_n (pc := 82) dX8_withOrder_82 rfl rfl rfl ?_
                  refine J_iload (pc := 83) dX8_withOrder_83 rfl ?_
                  refine J_iconst (pc := 85) (v := nI 1) dX8_withOrder_85 (by decide) ?_
                  refine J_iaddN (pc := 86) dX8_withOrder_86 ?_
                  refine J_callV0 (pc := 87) (M := mX8_withOrder) (as := [.int (nI ((c4 - 1) + 1))]) dX8_withOrder_87 fw_X8_from fl_X8_137 fm_X8_from fe_X8_from h19_37 (by decide) rfl rfl rfl (c_X8_from hs (d := d - 1) (Nat.le_trans (by decide) hdm) (w := w37) (n := n) (mv := mv) (rw := rw37) (nx := nx9) (b := b9) (bt := bt9) (kn := kn9) (en := en9) (dn := dn) (rf := rf) (kk := kk) (th := nI (tW 0 0)) ⟨h19_37, h20_37, h21_37, h22_37, hbb_37, hbl_37, hb3_37⟩ hn1 hn2 gm hgrw37 hgnx9 ((c4 - 1) + 1) (by first | assumption | omega) (kc := 0) (ks := 0)) hdp (st := []) (Nat.le_of_ble_eq_true rfl) rfl (kr_P fun v44 hv44 => ?_) kx_I
                  rcases hv44 with ⟨rfl, hk44_0⟩ | ⟨q44, rfl, hk44_0, hk44_1, hk44_2, hk44_3⟩
                  · refine J_istore (pc := 90) dX8_withOrder_90 (by decide) rfl ?_
                    show J X mX8_withOrder d (kc - 13) (ks - 2054) 92 [some (.ref 19), some (.int (nI q1)), some (.int c), some (.int x43), some (.int (-1))] [] w37 _
                    refine J_goto (pc := 92) (tgt := 46) dX8_withOrder_92 (by decide) ?_
                    exact J_sub (L' := [some (.ref 19), some (.int (nI q1)), some (.int c), some (.int x43), some (.int (nI 0 + Int32.ofInt (-1)))]) ⟨rfl, ⟨rfl, ⟨rfl, ⟨rfl, ⟨(congrArg (fun z => some (Value.int z)) (by decide : (-1 : Int32) = nI 0 + Int32.ofInt (-1))), trivial⟩⟩⟩⟩⟩ (ihlp46_28 w37 rw37 x43 0 ⟨h19_37, h20_37, h21_37, h22_37, hbb_37, hbl_37, hb3_37⟩ hF37 hgrw37 (by first | assumption | omega) (by exact mu_dec (by assumption) (by omega) (by omega) (by omega)))
                  · refine J_istore (pc := 90) dX8_withOrder_90 (by decide) rfl ?_
                    show J X mX8_withOrder d (kc - 13) (ks - 2054) 92 [some (.ref 19), some (.int (nI q1)), some (.int c), some (.int x43), some (.int (nI q44))] [] w37 _
                    refine J_goto (pc := 92) (tgt := 46) dX8_withOrder_92 (by decide) ?_
                    exact J_sub (L' := [some (.ref 19), some (.int (nI q1)), some (.int c), some (.int x43), some (.int (nI (q44 + 1) + Int32.ofInt (-1)))]) ⟨rfl, ⟨rfl, ⟨rfl, ⟨rfl, ⟨(congrArg (fun z => some (Value.int z)) (nI_n1 q44)), trivial⟩⟩⟩⟩⟩ (ihlp46_28 w37 rw37 x43 (q44 + 1) ⟨h19_37, h20_37, h21_37, h22_37, hbb_37, hbl_37, hb3_37⟩ hF37 hgrw37 (by first | assumption | omega) (by exact mu_dec (by assumption) (by omega) (by omega) (by omega)))
          exact J_sub (L' := [some (.ref 19), some (.int (nI q1)), some (.int c), some (.int (nI 0)), some (.int (nI (q10 + 1) + Int32.ofInt (-1)))]) ⟨rfl, ⟨rfl, ⟨rfl, ⟨rfl, ⟨(congrArg (fun z => some (Value.int z)) (nI_n1 q10)), trivial⟩⟩⟩⟩⟩ (lp46_28 _ w9 rw9 (nI 0) (q10 + 1) ⟨h19_9, h20_9, h21_9, h22_9, hbb_9, hbl_9, hb3_9⟩ hF9 hgrw9 (by first | assumption | omega) (Nat.lt_succ_self _))
      · refine J_iconst (pc := 19) (v := nI 1) dX8_withOrder_19 (by decide) ?_
        refine J_goto (pc := 20) (tgt := 24) dX8_withOrder_20 (by decide) ?_
        refine J_callV0 (pc := 24) (M := mX8_withOrder) (as := [.int (nI 1)]) dX8_withOrder_24 fw_X8_isThrown_ fl_X8_105 fm_X8_isThrown_ fe_X8_isThrown_ h19 (by decide) rfl rfl rfl (c_X8_isThrown_ hs (d := d - 1) (Nat.le_trans (by decide) hdm) (w := w) (n := n) (mv := mv) (rw := rw) (nx := nx) (b := b) (bt := bt) (kn := kn) (en := en) (dn := dn) (rf := rf) (kk := kk) (th := th) ⟨h19, h20, h21, h22, hbb, hbl, hb3⟩ hn1 hn2 gm gr gx 1 (by first | assumption | omega) (kc := 0) (ks := 0)) hdp (st := []) (Nat.le_of_ble_eq_true rfl) rfl (kr_I fun v45 w45 hv45 hw45 => ?_) kx_I
        obtain ⟨hR45, hFc45⟩ := hw45
        obtain ⟨h19_45, h20_45, h21_45, h22_45, hbb_45, hbl_45, hb3_45⟩ := hR45
        have hF45 := hF.tr hFc45
        subst hv45
        show J X mX8_withOrder d kc ks 27 [some (.ref 19), some (.int (nI q1)), some (.int c), none, none] [.int (nI 1)] w45 _
        refine J_if_eqN (pc := 27) (tgt := 32) dX8_withOrder_27 (by decide) (by decide) (fun h => absurd h (by decide)) (fun _ => ?_)
        refine J_iconst (pc := 30) (v := nI 0) dX8_withOrder_30 (by decide) ?_
        exact J_iret (pc := 31) dX8_withOrder_31 rfl ⟨trivial, ⟨rw, nx, b, bt, kn, en, nI (tW 1 0), ⟨h19_45, h20_45, h21_45, h22_45, hbb_45, hbl_45, hb3_45⟩, hF45, gr, gx, (by first | assumption | exact KX_i (by assumption) (by omega) (by first | rfl | assumption))⟩⟩
set_option maxRecDepth 100000 in
set_option maxHeartbeats 40000000 in
theorem c_X8_even {X : jX} (hs : X.1.stackTraces = false) {d : Nat} (hd : 5 ≤ d) {n : Nat} {mv rw nx : Nat → Nat} {b : Nat} {bt : List Int32} {kn en dn rf kk th : Int32} {w : List jC} (hR : RM n mv rw nx b bt kn en dn rf kk th w) (hn1 : 2 ≤ n) (hn2 : n ≤ 7) (gm : ∀ i, mv i < 7) (gr : ∀ i, rw i < 7) (gx : ∀ i, nx i < 7) (s : Int32) (hy0 : PM n mv) (hy1 : KX n mv kn bt) {kc ks : Nat} (hkc : 13 ≤ kc) (hks : 2054 ≤ ks) : jMet X mX8_even d kc ks [.ref 19, .int s] w (pI (fun _ => True) (fun w' => ∃ (rw' : Nat → Nat), ∃ (nx' : Nat → Nat), ∃ (b' : Nat), ∃ (bt' : List Int32), ∃ (kn' : Int32), ∃ (en' : Int32), ∃ (th' : Int32), RM n mv rw' nx' b' bt' kn' en' dn rf kk th' w' ∧ FR b b' w w' ∧ (∀ i, rw' i < 7) ∧ (∀ i, nx' i < 7) ∧ KX n mv kn' bt')) := by
  refine jMet_of hs (by decide +kernel) (Nat.le_of_ble_eq_true rfl) (L := [some (.ref 19), some (.int s)]) rfl ?_
  have hdm : 4 ≤ d - 1 := by omega
  have hdp : d - 1 + 1 ≤ d := by omega
  have hfc := fc_7 hn2
  have hfp := fc_pos n
  obtain ⟨h19, h20, h21, h22, hbb, hbl, hb3⟩ := hR
  have hF : FR b b w w := FR.rf
  refine J_aload_n (pc := 0) dX8_even_0 rfl rfl rfl ?_
  refine J_iload_n (pc := 1) dX8_even_1 rfl rfl ?_
  refine J_callS0 (pc := 2) (M := mX8_even) (as := [.int s]) dX8_even_2 fw_X8_isSet fl_X8_134 fs_X8_isSet rfl (c_X8_isSet hs (d := d - 1) (Nat.le_trans (by decide) hdm) (w := w) s (kc := 0) (ks := 0)) hdp (st := [.ref 19]) (Nat.le_of_ble_eq_true rfl) rfl (kr_P fun v1 hv1 => ?_) kx_I
  rcases hv1 with ⟨rfl, hk1_0⟩ | ⟨q1, rfl, hk1_0, rfl⟩
  · refine J_if_neN (pc := 5) (tgt := 12) dX8_even_5 (by decide) (by decide) (fun h => absurd h (by decide)) (fun _ => ?_)
    refine J_iconst (pc := 8) (v := nI 1) dX8_even_8 (by decide) ?_
    refine J_goto (pc := 9) (tgt := 13) dX8_even_9 (by decide) ?_
    refine J_callV0 (pc := 13) (M := mX8_even) (as := [.int (nI 1)]) dX8_even_13 fw_X8_isThrown_ fl_X8_105 fm_X8_isThrown_ fe_X8_isThrown_ h19 (by decide) rfl rfl rfl (c_X8_isThrown_ hs (d := d - 1) (Nat.le_trans (by decide) hdm) (w := w) (n := n) (mv := mv) (rw := rw) (nx := nx) (b := b) (bt := bt) (kn := kn) (en := en) (dn := dn) (rf := rf) (kk := kk) (th := th) ⟨h19, h20, h21, h22, hbb, hbl, hb3⟩ hn1 hn2 gm gr gx 1 (by first | assumption | omega) (kc := 0) (ks := 0)) hdp (st := []) (Nat.le_of_ble_eq_true rfl) rfl (kr_I fun v2 w2 hv2 hw2 => ?_) kx_I
    obtain ⟨hR2, hFc2⟩ := hw2
    obtain ⟨h19_2, h20_2, h21_2, h22_2, hbb_2, hbl_2, hb3_2⟩ := hR2
    have hF2 := hF.tr hFc2
    subst hv2
    show J X mX8_even d kc ks 16 [some (.ref 19), some (.int s)] [.int (nI 1)] w2 _
    refine J_if_eqN (pc := 16) (tgt := 23) dX8_even_16 (by decide) (by decide) (fun h => absurd h (by decide)) (fun _ => ?_)
    refine J_iconst (pc := 19) (v := nI 0) dX8_even_19 (by decide) ?_
    refine J_goto (pc := 20) (tgt := 28) dX8_even_20 (by decide) ?_
    exact J_iret (pc := 28) dX8_even_28 rfl ⟨trivial, ⟨rw, nx, b, bt, kn, en, nI (tW 1 0), ⟨h19_2, h20_2, h21_2, h22_2, hbb_2, hbl_2, hb3_2⟩, hF2, gr, gx, (by first | assumption | exact KX_i (by assumption) (by omega) (by first | rfl | assumption))⟩⟩
  · refine J_if_neN (pc := 5) (tgt := 12) dX8_even_5 (by decide) (by decide) (fun _ => ?_) (fun h => absurd h (by decide))
    refine J_iconst (pc := 12) (v := nI 0) dX8_even_12 (by decide) ?_
    refine J_callV0 (pc := 13) (M := mX8_even) (as := [.int (nI 0)]) dX8_even_13 fw_X8_isThrown_ fl_X8_105 fm_X8_isThrown_ fe_X8_isThrown_ h19 (by decide) rfl rfl rfl (c_X8_isThrown_ hs (d := d - 1) (Nat.le_trans (by decide) hdm) (w := w) (n := n) (mv := mv) (rw := rw) (nx := nx) (b := b) (bt := bt) (kn := kn) (en := en) (dn := dn) (rf := rf) (kk := kk) (th := th) ⟨h19, h20, h21, h22, hbb, hbl, hb3⟩ hn1 hn2 gm gr gx 0 (by first | assumption | omega) (kc := 0) (ks := 0)) hdp (st := []) (Nat.le_of_ble_eq_true rfl) rfl (kr_I fun v3 w3 hv3 hw3 => ?_) kx_I
    obtain ⟨hR3, hFc3⟩ := hw3
    obtain ⟨h19_3, h20_3, h21_3, h22_3, hbb_3, hbl_3, hb3_3⟩ := hR3
    have hF3 := hF.tr hFc3
    subst hv3
    show J X mX8_even d kc ks 16 [some (.ref 19), some (.int (nI q1))] [.int (nI 0)] w3 _
    refine J_if_eqN (pc := 16) (tgt := 23) dX8_even_16 (by decide) (by decide) (fun _ => ?_) (fun h => absurd h (by decide))
    refine J_aload_n (pc := 23) dX8_even_23 rfl rfl rfl ?_
    refine J_iload_n (pc := 24) dX8_even_24 rfl rfl ?_
    refine J_callV (pc := 25) (M := mX8_even) (as := [.int (nI q1)]) dX8_even_25 fw_X8_evenNow fl_X8_194 fm_X8_evenNow fe_X8_evenNow h19_3 (by decide) rfl rfl rfl (c_X8_evenNow hs (d := d - 1) (Nat.le_trans (by decide) hdm) (w := w3) (n := n) (mv := mv) (rw := rw) (nx := nx) (b := b) (bt := bt) (kn := kn) (en := en) (dn := dn) (rf := rf) (kk := kk) (th := nI (tW 0 0)) ⟨h19_3, h20_3, h21_3, h22_3, hbb_3, hbl_3, hb3_3⟩ hn1 hn2 gm gr gx q1 (by first | assumption | omega) (by first | assumption | omega) (by first | assumption | omega) (kc := 13) (ks := 2054) (Nat.le_refl _) (Nat.le_refl _)) hdp (by omega) (by omega) (st := []) (Nat.le_of_ble_eq_true rfl) rfl (kr_I fun v4 w4 hv4 hw4 => ?_) kx_I
    obtain ⟨rw4, nx4, b4, bt4, kn4, en4, hR4, hFc4, hgrw4, hgnx4, hp4_0, hp4_1⟩ := hw4
    obtain ⟨h19_4, h20_4, h21_4, h22_4, hbb_4, hbl_4, hb3_4⟩ := hR4
    have qd4 := hFc4.2.1
    have hF4 := hF3.tr hFc4
    exact J_iret (pc := 28) dX8_even_28 rfl ⟨trivial, ⟨rw4, nx4, b4, bt4, kn4, en4, nI (tW 0 0), ⟨h19_4, h20_4, h21_4, h22_4, hbb_4, hbl_4, hb3_4⟩, hF4, hgrw4, hgnx4, (by first | assumption | exact KX_i (by assumption) (by omega) (by first | rfl | assumption))⟩⟩
