/-! contracts of the reference: rspec4 -/
set_option maxRecDepth 100000 in
set_option maxHeartbeats 4000000 in
theorem c_X8_withOrder {X : jX} (hs : X.1.stackTraces = false) {d : Nat} (hd : 10 ≤ d) {n : Nat} {mv rw nx : Nat → Nat} {b : Nat} {bt : List Int32} {kn en dn rf kk th : Int32} {w : List jC} (hR : RM n mv rw nx b bt kn en dn rf kk th w) (hn1 : 2 ≤ n) (hn2 : n ≤ 7) (gm : ∀ i, mv i < 7) (gr : ∀ i, rw i < 7) (gx : ∀ i, nx i < 7) (s : Int32) (c : Int32) (hy0 : PM n mv) (hy1 : KB n kn bt) {kc ks : Nat} (hkc : 13 ≤ kc) (hks : 2054 ≤ ks) : jMet X mX8_withOrder d kc ks [.ref 19, .int s, .int c] w (pI (fun _ => True) (fun w' => ∃ (rw' : Nat → Nat), ∃ (nx' : Nat → Nat), ∃ (b' : Nat), ∃ (bt' : List Int32), ∃ (kn' : Int32), ∃ (en' : Int32), ∃ (th' : Int32), RM n mv rw' nx' b' bt' kn' en' dn rf kk th' w' ∧ FR b b' w w' ∧ (∀ i, rw' i < 7) ∧ (∀ i, nx' i < 7) ∧ KB n kn' bt')) := by
  refine jMet_of hs (by decide +kernel) (Nat.le_of_ble_eq_true rfl) (L := [some (.ref 19), some (.int s), some (.int c), none, none]) rfl ?_
  have hfc := fc_7 hn2
  have hfp := fc_pos n
  obtain ⟨h19, h20, h21, h22, hbb, hbl, hb3⟩ := hR
  have hF : FR b b w w := FR.rf
  refine J_aload_n (pc := 0) dX8_withOrder_0 rfl rfl rfl ?_
  refine J_iload_n (pc := 1) dX8_withOrder_1 rfl rfl ?_
  refine J_callS0 (pc := 2) (as := [.int s]) dX8_withOrder_2 fw_X8_isSet fl_X8_134 fs_X8_isSet rfl (c_X8_isSet hs (d := d - 1) (by omega) (w := w) s (kc := 0) (ks := 0)) (by omega) (st := [.ref 19]) (Nat.le_of_ble_eq_true rfl) rfl (kr_P fun v1 hv1 => ?_) kx_I
  rcases hv1 with ⟨rfl, hk1_0⟩ | ⟨q1, rfl, hk1_0, rfl⟩
  · refine J_if_eqN (pc := 5) (tgt := 19) dX8_withOrder_5 (by decide) (by decide) (fun _ => ?_) (fun h => absurd h (by decide))
    refine J_iconst (pc := 19) (v := nI 1) dX8_withOrder_19 (by decide) ?_
    refine J_goto (pc := 20) (tgt := 24) dX8_withOrder_20 (by decide) ?_
    refine J_callV0 (pc := 24) (as := [.int (nI 1)]) dX8_withOrder_24 fw_X8_isThrown_ fl_X8_105 fm_X8_isThrown_ fe_X8_isThrown_ h19 (by decide) rfl rfl rfl (c_X8_isThrown_ hs (d := d - 1) (by omega) (w := w) (n := n) (mv := mv) (rw := rw) (nx := nx) (b := b) (bt := bt) (kn := kn) (en := en) (dn := dn) (rf := rf) (kk := kk) (th := th) ⟨h19, h20, h21, h22, hbb, hbl, hb3⟩ hn1 hn2 gm gr gx 1 (by first | assumption | omega) (kc := 0) (ks := 0)) (by omega) (st := []) (Nat.le_of_ble_eq_true rfl) rfl (kr_I fun v2 w2 hv2 hw2 => ?_) kx_I
    obtain ⟨hR2, hFc2⟩ := hw2
    obtain ⟨h19_2, h20_2, h21_2, h22_2, hbb_2, hbl_2, hb3_2⟩ := hR2
    have hF2 := hF.tr hFc2
    subst hv2
    show J X mX8_withOrder d kc ks 27 [some (.ref 19), some (.int s), some (.int c), none, none] [.int (nI 1)] w2 _
    refine J_if_eqN (pc := 27) (tgt := 32) dX8_withOrder_27 (by decide) (by decide) (fun h => absurd h (by decide)) (fun _ => ?_)
    refine J_iconst (pc := 30) (v := nI 0) dX8_withOrder_30 (by decide) ?_
    exact J_iret (pc := 31) dX8_withOrder_31 rfl ⟨trivial, ⟨rw, nx, b, bt, kn, en, nI (tW 1 0), ⟨h19_2, h20_2, h21_2, h22_2, hbb_2, hbl_2, hb3_2⟩, hF2, gr, gx, (by first | assumption | exact Or.inr (by assumption))⟩⟩
  · refine J_if_eqN (pc := 5) (tgt := 19) dX8_withOrder_5 (by decide) (by decide) (fun h => absurd h (by decide)) (fun _ => ?_)
    refine J_iload_n (pc := 8) dX8_withOrder_8 rfl rfl ?_
    refine J_iconst (pc := 9) (v := nI 1) dX8_withOrder_9 (by decide) ?_
    refine J_icmp_lt (pc := 10) (tgt := 19) dX8_withOrder_10 (by decide) (fun ht3 => ?_) (fun hf4 => ?_)
    · refine J_iconst (pc := 19) (v := nI 1) dX8_withOrder_19 (by decide) ?_
      refine J_goto (pc := 20) (tgt := 24) dX8_withOrder_20 (by decide) ?_
      refine J_callV0 (pc := 24) (as := [.int (nI 1)]) dX8_withOrder_24 fw_X8_isThrown_ fl_X8_105 fm_X8_isThrown_ fe_X8_isThrown_ h19 (by decide) rfl rfl rfl (c_X8_isThrown_ hs (d := d - 1) (by omega) (w := w) (n := n) (mv := mv) (rw := rw) (nx := nx) (b := b) (bt := bt) (kn := kn) (en := en) (dn := dn) (rf := rf) (kk := kk) (th := th) ⟨h19, h20, h21, h22, hbb, hbl, hb3⟩ hn1 hn2 gm gr gx 1 (by first | assumption | omega) (kc := 0) (ks := 0)) (by omega) (st := []) (Nat.le_of_ble_eq_true rfl) rfl (kr_I fun v5 w5 hv5 hw5 => ?_) kx_I
      obtain ⟨hR5, hFc5⟩ := hw5
      obtain ⟨h19_5, h20_5, h21_5, h22_5, hbb_5, hbl_5, hb3_5⟩ := hR5
      have hF5 := hF.tr hFc5
      subst hv5
      show J X mX8_withOrder d kc ks 27 [some (.ref 19), some (.int (nI q1)), some (.int c), none, none] [.int (nI 1)] w5 _
      refine J_if_eqN (pc := 27) (tgt := 32) dX8_withOrder_27 (by decide) (by decide) (fun h => absurd h (by decide)) (fun _ => ?_)
      refine J_iconst (pc := 30) (v := nI 0) dX8_withOrder_30 (by decide) ?_
      exact J_iret (pc := 31) dX8_withOrder_31 rfl ⟨trivial, ⟨rw, nx, b, bt, kn, en, nI (tW 1 0), ⟨h19_5, h20_5, h21_5, h22_5, hbb_5, hbl_5, hb3_5⟩, hF5, gr, gx, (by first | assumption | exact Or.inr (by assumption))⟩⟩
    · refine J_iload_n (pc := 13) dX8_withOrder_13 rfl rfl ?_
      refine J_bipush (pc := 14) (v := nI 12) dX8_withOrder_14 (by decide) ?_
      refine J_icmp_le (pc := 16) (tgt := 23) dX8_withOrder_16 (by decide) (fun ht6 => ?_) (fun hf7 => ?_)
      · refine J_iconst (pc := 23) (v := nI 0) dX8_withOrder_23 (by decide) ?_
        refine J_callV0 (pc := 24) (as := [.int (nI 0)]) dX8_withOrder_24 fw_X8_isThrown_ fl_X8_105 fm_X8_isThrown_ fe_X8_isThrown_ h19 (by decide) rfl rfl rfl (c_X8_isThrown_ hs (d := d - 1) (by omega) (w := w) (n := n) (mv := mv) (rw := rw) (nx := nx) (b := b) (bt := bt) (kn := kn) (en := en) (dn := dn) (rf := rf) (kk := kk) (th := th) ⟨h19, h20, h21, h22, hbb, hbl, hb3⟩ hn1 hn2 gm gr gx 0 (by first | assumption | omega) (kc := 0) (ks := 0)) (by omega) (st := []) (Nat.le_of_ble_eq_true rfl) rfl (kr_I fun v8 w8 hv8 hw8 => ?_) kx_I
        obtain ⟨hR8, hFc8⟩ := hw8
        obtain ⟨h19_8, h20_8, h21_8, h22_8, hbb_8, hbl_8, hb3_8⟩ := hR8
        have hF8 := hF.tr hFc8
        subst hv8
        show J X mX8_withOrder d kc ks 27 [some (.ref 19), some (.int (nI q1)), some (.int c), none, none] [.int (nI 0)] w8 _
        refine J_if_eqN (pc := 27) (tgt := 32) dX8_withOrder_27 (by decide) (by decide) (fun _ => ?_) (fun h => absurd h (by decide))
        refine J_aload_n (pc := 32) dX8_withOrder_32 rfl rfl rfl ?_
        refine J_iload_n (pc := 33) dX8_withOrder_33 rfl rfl ?_
        refine J_callV (pc := 34) (as := [.int (nI q1)]) dX8_withOrder_34 fw_X8_group fl_X8_99 fm_X8_group fe_X8_group h19_8 (by decide) rfl rfl rfl (c_X8_group hs (d := d - 1) (by omega) (w := w8) (n := n) (mv := mv) (rw := rw) (nx := nx) (b := b) (bt := bt) (kn := kn) (en := en) (dn := dn) (rf := rf) (kk := kk) (th := nI (tW 0 0)) ⟨h19_8, h20_8, h21_8, h22_8, hbb_8, hbl_8, hb3_8⟩ hn1 hn2 gm gr gx q1 (by first | assumption | omega) (by first | assumption | omega) (by first | assumption | omega) (kc := 13) (ks := 2054) (Nat.le_refl _) (Nat.le_refl _)) (by omega) (by omega) (by omega) (st := []) (Nat.le_of_ble_eq_true rfl) rfl (kr_V fun w9 hw9 => ?_) kx_V
        obtain ⟨rw9, nx9, b9, bt9, kn9, en9, hR9, hFc9, hgrw9, hgnx9, hp9_0, hp9_1⟩ := hw9
        obtain ⟨h19_9, h20_9, h21_9, h22_9, hbb_9, hbl_9, hb3_9⟩ := hR9
        have qd9 := hFc9.2.1
        have hF9 := hF8.tr hFc9
        refine J_iconst (pc := 37) (v := nI 0) dX8_withOrder_37 (by decide) ?_
        refine J_istore_n (pc := 38) dX8_withOrder_38 rfl (by decide) rfl ?_
        show J X mX8_withOrder d (kc - 13) (ks - 2054) 39 [some (.ref 19), some (.int (nI q1)), some (.int c), some (.int (nI 0)), none] [] w9 _
        refine J_aload_n (pc := 39) dX8_withOrder_39 rfl rfl rfl ?_
        refine J_iconst (pc := 40) (v := nI 0) dX8_withOrder_40 (by decide) ?_
        refine J_callV0 (pc := 41) (as := [.int (nI 0)]) dX8_withOrder_41 fw_X8_from fl_X8_137 fm_X8_from fe_X8_from h19_9 (by decide) rfl rfl rfl (c_X8_from hs (d := d - 1) (by omega) (w := w9) (n := n) (mv := mv) (rw := rw9) (nx := nx9) (b := b9) (bt := bt9) (kn := kn9) (en := en9) (dn := dn) (rf := rf) (kk := kk) (th := nI (tW 0 0)) ⟨h19_9, h20_9, h21_9, h22_9, hbb_9, hbl_9, hb3_9⟩ hn1 hn2 gm hgrw9 hgnx9 0 (by first | assumption | omega) (kc := 0) (ks := 0)) (by omega) (st := []) (Nat.le_of_ble_eq_true rfl) rfl (kr_P fun v10 hv10 => ?_) kx_I
        rcases hv10 with ⟨rfl, hk10_0⟩ | ⟨q10, rfl, hk10_0, hk10_1, hk10_2, hk10_3⟩
        · refine J_istore (pc := 44) dX8_withOrder_44 (by decide) rfl ?_
          show J X mX8_withOrder d (kc - 13) (ks - 2054) 46 [some (.ref 19), some (.int (nI q1)), some (.int c), some (.int (nI 0)), some (.int (-1))] [] w9 _
          have lp46_11 : ∀ (fuel : Nat) (w12 : List jC) (rw_46 : Nat → Nat) (z3 : Int32) (c4 : Nat), (RM n mv rw_46 nx9 b9 bt9 kn9 en9 dn rf kk (nI (tW 0 0)) w12) → (FR b b9 w w12) → (∀ i, rw_46 i < 7) → (c4 ≤ fc n) → (mu (fc n) c4 < fuel) → J X mX8_withOrder d (kc - 13) (ks - 2054) 46 [some (.ref 19), some (.int (nI q1)), some (.int c), some (.int z3), some (.int (nI c4 + Int32.ofInt (-1)))] [] w12 (pI (fun _ => True) (fun w' => ∃ (rw' : Nat → Nat), ∃ (nx' : Nat → Nat), ∃ (b' : Nat), ∃ (bt' : List Int32), ∃ (kn' : Int32), ∃ (en' : Int32), ∃ (th' : Int32), RM n mv rw' nx' b' bt' kn' en' dn rf kk th' w' ∧ FR b b' w w' ∧ (∀ i, rw' i < 7) ∧ (∀ i, nx' i < 7) ∧ KB n kn' bt')) := by
            intro fuellp46_11
            induction fuellp46_11 with
            | zero => intros; omega
            | succ fuellp46_11 ihlp46_11 =>
              intro w12 rw_46 z3 c4 hR13 hF14 gr15 hv46_0 hf16
              obtain ⟨h19_17, h20_17, h21_17, h22_17, hb_17, hbl_17, hb3_17⟩ := hR13
              refine J_iload (pc := 46) dX8_withOrder_46 rfl ?_
              refine J_if_ltM (pc := 48) (tgt := 95) dX8_withOrder_48 (by decide) (by omega) (fun ht18 => ?_) (fun hf19 => ?_)
              · refine J_iload_n (pc := 95) dX8_withOrder_95 rfl rfl ?_
                exact J_iret (pc := 96) dX8_withOrder_96 rfl ⟨trivial, ⟨rw_46, nx9, b9, bt9, kn9, en9, nI (tW 0 0), ⟨h19_17, h20_17, h21_17, h22_17, hb_17, hbl_17, hb3_17⟩, hF14, gr15, hgnx9, (by first | assumption | exact Or.inr (by assumption))⟩⟩
              · rw [nI_m1 hf19]
                refine J_aload_n (pc := 51) dX8_withOrder_51 rfl rfl rfl ?_
                refine J_iload (pc := 52) dX8_withOrder_52 rfl ?_
                refine J_aload_n (pc := 54) dX8_withOrder_54 rfl rfl rfl ?_
                refine J_get (pc := 55) (k := 2) dX8_withOrder_55 kC9 (by decide) ff_X8_17 h19_17 rfl ?_
                refine J_callV0 (pc := 58) (as := [.int (nI (c4 - 1)), .ref 21]) dX8_withOrder_58 fw_X8_rowOf fl_X8_78 fm_X8_rowOf fe_X8_rowOf h19_17 (by decide) rfl rfl rfl (c_X8_rowOf hs (d := d - 1) (by omega) (w := w12) (n := n) (mv := mv) (rw := rw_46) (nx := nx9) (b := b9) (bt := bt9) (kn := kn9) (en := en9) (dn := dn) (rf := rf) (kk := kk) (th := nI (tW 0 0)) ⟨h19_17, h20_17, h21_17, h22_17, hb_17, hbl_17, hb3_17⟩ hn1 hn2 gm gr15 hgnx9 (c4 - 1) (by first | assumption | omega) (kc := 0) (ks := 0)) (by omega) (st := []) (Nat.le_of_ble_eq_true rfl) rfl (kr_V fun w20 hw20 => ?_) kx_V
                obtain ⟨rw20, hR20, hFc20, hgrw20, hp20_0⟩ := hw20
                obtain ⟨h19_20, h20_20, h21_20, h22_20, hbb_20, hbl_20, hb3_20⟩ := hR20
                have hF20 := hF14.tr hFc20
                have hPr := Pn_row (by omega) hp20_0
                refine J_iload_n (pc := 61) dX8_withOrder_61 rfl rfl ?_
                refine J_aload_n (pc := 62) dX8_withOrder_62 rfl rfl rfl ?_
                refine J_aload_n (pc := 63) dX8_withOrder_63 rfl rfl rfl ?_
                refine J_get (pc := 64) (k := 2) dX8_withOrder_64 kC9 (by decide) ff_X8_17 h19_20 rfl ?_
                refine J_iconst (pc := 67) (v := nI 0) dX8_withOrder_67 (by decide) ?_
                refine J_callV0 (pc := 68) (as := [.ref 21, .int (nI 0)]) dX8_withOrder_68 fw_X8_orderOf fl_X8_172 fm_X8_orderOf fe_X8_orderOf h19_20 (by decide) rfl rfl rfl (c_X8_orderOf_at21 hs (d := d - 1) (by omega) (w := w20) (n := n) (mv := mv) (rw := rw20) (nx := nx9) (b := b9) (bt := bt9) (kn := kn9) (en := en9) (dn := dn) (rf := rf) (kk := kk) (th := nI (tW 0 0)) ⟨h19_20, h20_20, h21_20, h22_20, hbb_20, hbl_20, hb3_20⟩ hn1 hn2 gm hgrw20 hgnx9 0 (by first | assumption | omega) (by exact Pn_z hPr) (kc := 0) (ks := 0)) (by omega) (st := [.int z3]) (Nat.le_of_ble_eq_true rfl) rfl (kr_P fun v21 hv21 => ?_) kx_I
                obtain ⟨k21, rfl, hk21⟩ := hv21
                refine J_iload_n (pc := 71) dX8_withOrder_71 rfl rfl ?_
                refine J_icmp_ne (pc := 72) (tgt := 79) dX8_withOrder_72 (by decide) (fun ht22 => ?_) (fun hf23 => ?_)
                · refine J_iconst (pc := 79) (v := nI 0) dX8_withOrder_79 (by decide) ?_
                  refine J_iadd (pc := 80) dX8_withOrder_80 (J_absI fun x24 => ?_)
                  refine J_istore_n (pc := 81) dX8_withOrder_81 rfl (by decide) rfl ?_
                  show J X mX8_withOrder d (kc - 13) (ks - 2054) 82 [some (.ref 19), some (.int (nI q1)), some (.int c), some (.int x24), some (.int (nI (c4 - 1)))] [] w20 _
                  refine J_aload_n (pc := 82) dX8_withOrder_82 rfl rfl rfl ?_
                  refine J_iload (pc := 83) dX8_withOrder_83 rfl ?_
                  refine J_iconst (pc := 85) (v := nI 1) dX8_withOrder_85 (by decide) ?_
                  refine J_iaddN (pc := 86) dX8_withOrder_86 ?_
                  refine J_callV0 (pc := 87) (as := [.int (nI ((c4 - 1) + 1))]) dX8_withOrder_87 fw_X8_from fl_X8_137 fm_X8_from fe_X8_from h19_20 (by decide) rfl rfl rfl (c_X8_from hs (d := d - 1) (by omega) (w := w20) (n := n) (mv := mv) (rw := rw20) (nx := nx9) (b := b9) (bt := bt9) (kn := kn9) (en := en9) (dn := dn) (rf := rf) (kk := kk) (th := nI (tW 0 0)) ⟨h19_20, h20_20, h21_20, h22_20, hbb_20, hbl_20, hb3_20⟩ hn1 hn2 gm hgrw20 hgnx9 ((c4 - 1) + 1) (by first | assumption | omega) (kc := 0) (ks := 0)) (by omega) (st := []) (Nat.le_of_ble_eq_true rfl) rfl (kr_P fun v25 hv25 => ?_) kx_I
                  rcases hv25 with ⟨rfl, hk25_0⟩ | ⟨q25, rfl, hk25_0, hk25_1, hk25_2, hk25_3⟩
                  · refine J_istore (pc := 90) dX8_withOrder_90 (by decide) rfl ?_
                    show J X mX8_withOrder d (kc - 13) (ks - 2054) 92 [some (.ref 19), some (.int (nI q1)), some (.int c), some (.int x24), some (.int (-1))] [] w20 _
                    refine J_goto (pc := 92) (tgt := 46) dX8_withOrder_92 (by decide) ?_
                    exact J_sub (L' := [some (.ref 19), some (.int (nI q1)), some (.int c), some (.int x24), some (.int (nI 0 + Int32.ofInt (-1)))]) ⟨rfl, ⟨rfl, ⟨rfl, ⟨rfl, ⟨(congrArg (fun z => some (Value.int z)) (by decide : (-1 : Int32) = nI 0 + Int32.ofInt (-1))), trivial⟩⟩⟩⟩⟩ (ihlp46_11 w20 rw20 x24 0 ⟨h19_20, h20_20, h21_20, h22_20, hbb_20, hbl_20, hb3_20⟩ hF20 hgrw20 (by first | assumption | omega) (by exact mu_dec (by assumption) (by omega) (by omega) (by omega)))
                  · refine J_istore (pc := 90) dX8_withOrder_90 (by decide) rfl ?_
                    show J X mX8_withOrder d (kc - 13) (ks - 2054) 92 [some (.ref 19), some (.int (nI q1)), some (.int c), some (.int x24), some (.int (nI q25))] [] w20 _
                    refine J_goto (pc := 92) (tgt := 46) dX8_withOrder_92 (by decide) ?_
                    exact J_sub (L' := [some (.ref 19), some (.int (nI q1)), some (.int c), some (.int x24), some (.int (nI (q25 + 1) + Int32.ofInt (-1)))]) ⟨rfl, ⟨rfl, ⟨rfl, ⟨rfl, ⟨(congrArg (fun z => some (Value.int z)) (nI_n1 q25)), trivial⟩⟩⟩⟩⟩ (ihlp46_11 w20 rw20 x24 (q25 + 1) ⟨h19_20, h20_20, h21_20, h22_20, hbb_20, hbl_20, hb3_20⟩ hF20 hgrw20 (by first | assumption | omega) (by exact mu_dec (by assumption) (by omega) (by omega) (by omega)))
                · refine J_iconst (pc := 75) (v := nI 1) dX8_withOrder_75 (by decide) ?_
                  refine J_goto (pc := 76) (tgt := 80) dX8_withOrder_76 (by decide) ?_
                  refine J_iadd (pc := 80) dX8_withOrder_80 (J_absI fun x26 => ?_)
                  refine J_istore_n (pc := 81) dX8_withOrder_81 rfl (by decide) rfl ?_
                  show J X mX8_withOrder d (kc - 13) (ks - 2054) 82 [some (.ref 19), some (.int (nI q1)), some (.int c), some (.int x26), some (.int (nI (c4 - 1)))] [] w20 _
                  refine J_aload_n (pc := 82) dX8_withOrder_82 rfl rfl rfl ?_
                  refine J_iload (pc := 83) dX8_withOrder_83 rfl ?_
                  refine J_iconst (pc := 85) (v := nI 1) dX8_withOrder_85 (by decide) ?_
                  refine J_iaddN (pc := 86) dX8_withOrder_86 ?_
                  refine J_callV0 (pc := 87) (as := [.int (nI ((c4 - 1) + 1))]) dX8_withOrder_87 fw_X8_from fl_X8_137 fm_X8_from fe_X8_from h19_20 (by decide) rfl rfl rfl (c_X8_from hs (d := d - 1) (by omega) (w := w20) (n := n) (mv := mv) (rw := rw20) (nx := nx9) (b := b9) (bt := bt9) (kn := kn9) (en := en9) (dn := dn) (rf := rf) (kk := kk) (th := nI (tW 0 0)) ⟨h19_20, h20_20, h21_20, h22_20, hbb_20, hbl_20, hb3_20⟩ hn1 hn2 gm hgrw20 hgnx9 ((c4 - 1) + 1) (by first | assumption | omega) (kc := 0) (ks := 0)) (by omega) (st := []) (Nat.le_of_ble_eq_true rfl) rfl (kr_P fun v27 hv27 => ?_) kx_I
                  rcases hv27 with ⟨rfl, hk27_0⟩ | ⟨q27, rfl, hk27_0, hk27_1, hk27_2, hk27_3⟩
                  · refine J_istore (pc := 90) dX8_withOrder_90 (by decide) rfl ?_
                    show J X mX8_withOrder d (kc - 13) (ks - 2054) 92 [some (.ref 19), some (.int (nI q1)), some (.int c), some (.int x26), some (.int (-1))] [] w20 _
                    refine J_goto (pc := 92) (tgt := 46) dX8_withOrder_92 (by decide) ?_
                    exact J_sub (L' := [some (.ref 19), some (.int (nI q1)), some (.int c), some (.int x26), some (.int (nI 0 + Int32.ofInt (-1)))]) ⟨rfl, ⟨rfl, ⟨rfl, ⟨rfl, ⟨(congrArg (fun z => some (Value.int z)) (by decide : (-1 : Int32) = nI 0 + Int32.ofInt (-1))), trivial⟩⟩⟩⟩⟩ (ihlp46_11 w20 rw20 x26 0 ⟨h19_20, h20_20, h21_20, h22_20, hbb_20, hbl_20, hb3_20⟩ hF20 hgrw20 (by first | assumption | omega) (by exact mu_dec (by assumption) (by omega) (by omega) (by omega)))
                  · refine J_istore (pc := 90) dX8_withOrder_90 (by decide) rfl ?_
                    show J X mX8_withOrder d (kc - 13) (ks - 2054) 92 [some (.ref 19), some (.int (nI q1)), some (.int c), some (.int x26), some (.int (nI q27))] [] w20 _
                    refine J_goto (pc := 92) (tgt := 46) dX8_withOrder_92 (by decide) ?_
                    exact J_sub (L' := [some (.ref 19), some (.int (nI q1)), some (.int c), some (.int x26), some (.int (nI (q27 + 1) + Int32.ofInt (-1)))]) ⟨rfl, ⟨rfl, ⟨rfl, ⟨rfl, ⟨(congrArg (fun z => some (Value.int z)) (nI_n1 q27)), trivial⟩⟩⟩⟩⟩ (ihlp46_11 w20 rw20 x26 (q27 + 1) ⟨h19_20, h20_20, h21_20, h22_20, hbb_20, hbl_20, hb3_20⟩ hF20 hgrw20 (by first | assumption | omega) (by exact mu_dec (by assumption) (by omega) (by omega) (by omega)))
          exact J_sub (L' := [some (.ref 19), some (.int (nI q1)), some (.int c), some (.int (nI 0)), some (.int (nI 0 + Int32.ofInt (-1)))]) ⟨rfl, ⟨rfl, ⟨rfl, ⟨rfl, ⟨(congrArg (fun z => some (Value.int z)) (by decide : (-1 : Int32) = nI 0 + Int32.ofInt (-1))), trivial⟩⟩⟩⟩⟩ (lp46_11 _ w9 rw9 (nI 0) 0 ⟨h19_9, h20_9, h21_9, h22_9, hbb_9, hbl_9, hb3_9⟩ hF9 hgrw9 (by first | assumption | omega) (Nat.lt_succ_self _))
        · refine J_istore (pc := 44) dX8_withOrder_44 (by decide) rfl ?_
          show J X mX8_withOrder d (kc - 13) (ks - 2054) 46 [some (.ref 19), some (.int (nI q1)), some (.int c), some (.int (nI 0)), some (.int (nI q10))] [] w9 _
          have lp46_28 : ∀ (fuel : Nat) (w29 : List jC) (rw_46 : Nat → Nat) (z3 : Int32) (c4 : Nat), (RM n mv rw_46 nx9 b9 bt9 kn9 en9 dn rf kk (nI (tW 0 0)) w29) → (FR b b9 w w29) → (∀ i, rw_46 i < 7) → (c4 ≤ fc n) → (mu (fc n) c4 < fuel) → J X mX8_withOrder d (kc - 13) (ks - 2054) 46 [some (.ref 19), some (.int (nI q1)), some (.int c), some (.int z3), some (.int (nI c4 + Int32.ofInt (-1)))] [] w29 (pI (fun _ => True) (fun w' => ∃ (rw' : Nat → Nat), ∃ (nx' : Nat → Nat), ∃ (b' : Nat), ∃ (bt' : List Int32), ∃ (kn' : Int32), ∃ (en' : Int32), ∃ (th' : Int32), RM n mv rw' nx' b' bt' kn' en' dn rf kk th' w' ∧ FR b b' w w' ∧ (∀ i, rw' i < 7) ∧ (∀ i, nx' i < 7) ∧ KB n kn' bt')) := by
            intro fuellp46_28
            induction fuellp46_28 with
            | zero => intros; omega
            | succ fuellp46_28 ihlp46_28 =>
              intro w29 rw_46 z3 c4 hR30 hF31 gr32 hv46_0 hf33
              obtain ⟨h19_34, h20_34, h21_34, h22_34, hb_34, hbl_34, hb3_34⟩ := hR30
              refine J_iload (pc := 46) dX8_withOrder_46 rfl ?_
              refine J_if_ltM (pc := 48) (tgt := 95) dX8_withOrder_48 (by decide) (by omega) (fun ht35 => ?_) (fun hf36 => ?_)
              · refine J_iload_n (pc := 95) dX8_withOrder_95 rfl rfl ?_
                exact J_iret (pc := 96) dX8_withOrder_96 rfl ⟨trivial, ⟨rw_46, nx9, b9, bt9, kn9, en9, nI (tW 0 0), ⟨h19_34, h20_34, h21_34, h22_34, hb_34, hbl_34, hb3_34⟩, hF31, gr32, hgnx9, (by first | assumption | exact Or.inr (by assumption))⟩⟩
              · rw [nI_m1 hf36]
                refine J_aload_n (pc := 51) dX8_withOrder_51 rfl rfl rfl ?_
                refine J_iload (pc := 52) dX8_withOrder_52 rfl ?_
                refine J_aload_n (pc := 54) dX8_withOrder_54 rfl rfl rfl ?_
                refine J_get (pc := 55) (k := 2) dX8_withOrder_55 kC9 (by decide) ff_X8_17 h19_34 rfl ?_
                refine J_callV0 (pc := 58) (as := [.int (nI (c4 - 1)), .ref 21]) dX8_withOrder_58 fw_X8_rowOf fl_X8_78 fm_X8_rowOf fe_X8_rowOf h19_34 (by decide) rfl rfl rfl (c_X8_rowOf hs (d := d - 1) (by omega) (w := w29) (n := n) (mv := mv) (rw := rw_46) (nx := nx9) (b := b9) (bt := bt9) (kn := kn9) (en := en9) (dn := dn) (rf := rf) (kk := kk) (th := nI (tW 0 0)) ⟨h19_34, h20_34, h21_34, h22_34, hb_34, hbl_34, hb3_34⟩ hn1 hn2 gm gr32 hgnx9 (c4 - 1) (by first | assumption | omega) (kc := 0) (ks := 0)) (by omega) (st := []) (Nat.le_of_ble_eq_true rfl) rfl (kr_V fun w37 hw37 => ?_) kx_V
                obtain ⟨rw37, hR37, hFc37, hgrw37, hp37_0⟩ := hw37
                obtain ⟨h19_37, h20_37, h21_37, h22_37, hbb_37, hbl_37, hb3_37⟩ := hR37
                have hF37 := hF31.tr hFc37
                have hPr := Pn_row (by omega) hp37_0
                refine J_iload_n (pc := 61) dX8_withOrder_61 rfl rfl ?_
                refine J_aload_n (pc := 62) dX8_withOrder_62 rfl rfl rfl ?_
                refine J_aload_n (pc := 63) dX8_withOrder_63 rfl rfl rfl ?_
                refine J_get (pc := 64) (k := 2) dX8_withOrder_64 kC9 (by decide) ff_X8_17 h19_37 rfl ?_
                refine J_iconst (pc := 67) (v := nI 0) dX8_withOrder_67 (by decide) ?_
                refine J_callV0 (pc := 68) (as := [.ref 21, .int (nI 0)]) dX8_withOrder_68 fw_X8_orderOf fl_X8_172 fm_X8_orderOf fe_X8_orderOf h19_37 (by decide) rfl rfl rfl (c_X8_orderOf_at21 hs (d := d - 1) (by omega) (w := w37) (n := n) (mv := mv) (rw := rw37) (nx := nx9) (b := b9) (bt := bt9) (kn := kn9) (en := en9) (dn := dn) (rf := rf) (kk := kk) (th := nI (tW 0 0)) ⟨h19_37, h20_37, h21_37, h22_37, hbb_37, hbl_37, hb3_37⟩ hn1 hn2 gm hgrw37 hgnx9 0 (by first | assumption | omega) (by exact Pn_z hPr) (kc := 0) (ks := 0)) (by omega) (st := [.int z3]) (Nat.le_of_ble_eq_true rfl) rfl (kr_P fun v38 hv38 => ?_) kx_I
                obtain ⟨k38, rfl, hk38⟩ := hv38
                refine J_iload_n (pc := 71) dX8_withOrder_71 rfl rfl ?_
                refine J_icmp_ne (pc := 72) (tgt := 79) dX8_withOrder_72 (by decide) (fun ht39 => ?_) (fun hf40 => ?_)
                · refine J_iconst (pc := 79) (v := nI 0) dX8_withOrder_79 (by decide) ?_
                  refine J_iadd (pc := 80) dX8_withOrder_80 (J_absI fun x41 => ?_)
                  refine J_istore_n (pc := 81) dX8_withOrder_81 rfl (by decide) rfl ?_
                  show J X mX8_withOrder d (kc - 13) (ks - 2054) 82 [some (.ref 19), some (.int (nI q1)), some (.int c), some (.int x41), some (.int (nI (c4 - 1)))] [] w37 _
                  refine J_aload_n (pc := 82) dX8_withOrder_82 rfl rfl rfl ?_
                  refine J_iload (pc := 83) dX8_withOrder_83 rfl ?_
                  refine J_iconst (pc := 85) (v := nI 1) dX8_withOrder_85 (by decide) ?_
                  refine J_iaddN (pc := 86) dX8_withOrder_86 ?_
                  refine J_callV0 (pc := 87) (as := [.int (nI ((c4 - 1) + 1))]) dX8_withOrder_87 fw_X8_from fl_X8_137 fm_X8_from fe_X8_from h19_37 (by decide) rfl rfl rfl (c_X8_from hs (d := d - 1) (by omega) (w := w37) (n := n) (mv := mv) (rw := rw37) (nx := nx9) (b := b9) (bt := bt9) (kn := kn9) (en := en9) (dn := dn) (rf := rf) (kk := kk) (th := nI (tW 0 0)) ⟨h19_37, h20_37, h21_37, h22_37, hbb_37, hbl_37, hb3_37⟩ hn1 hn2 gm hgrw37 hgnx9 ((c4 - 1) + 1) (by first | assumption | omega) (kc := 0) (ks := 0)) (by omega) (st := []) (Nat.le_of_ble_eq_true rfl) rfl (kr_P fun v42 hv42 => ?_) kx_I
                  rcases hv42 with ⟨rfl, hk42_0⟩ | ⟨q42, rfl, hk42_0, hk42_1, hk42_2, hk42_3⟩
                  · refine J_istore (pc := 90) dX8_withOrder_90 (by decide) rfl ?_
                    show J X mX8_withOrder d (kc - 13) (ks - 2054) 92 [some (.ref 19), some (.int (nI q1)), some (.int c), some (.int x41), some (.int (-1))] [] w37 _
                    refine J_goto (pc := 92) (tgt := 46) dX8_withOrder_92 (by decide) ?_
                    exact J_sub (L' := [some (.ref 19), some (.int (nI q1)), some (.int c), some (.int x41), some (.int (nI 0 + Int32.ofInt (-1)))]) ⟨rfl, ⟨rfl, ⟨rfl, ⟨rfl, ⟨(congrArg (fun z => some (Value.int z)) (by decide : (-1 : Int32) = nI 0 + Int32.ofInt (-1))), trivial⟩⟩⟩⟩⟩ (ihlp46_28 w37 rw37 x41 0 ⟨h19_37, h20_37, h21_37, h22_37, hbb_37, hbl_37, hb3_37⟩ hF37 hgrw37 (by first | assumption | omega) (by exact mu_dec (by assumption) (by omega) (by omega) (by omega)))
                  · refine J_istore (pc := 90) dX8_withOrder_90 (by decide) rfl ?_
                    show J X mX8_withOrder d (kc - 13) (ks - 2054) 92 [some (.ref 19), some (.int (nI q1)), some (.int c), some (.int x41), some (.int (nI q42))] [] w37 _
                    refine J_goto (pc := 92) (tgt := 46) dX8_withOrder_92 (by decide) ?_
                    exact J_sub (L' := [some (.ref 19), some (.int (nI q1)), some (.int c), some (.int x41), some (.int (nI (q42 + 1) + Int32.ofInt (-1)))]) ⟨rfl, ⟨rfl, ⟨rfl, ⟨rfl, ⟨(congrArg (fun z => some (Value.int z)) (nI_n1 q42)), trivial⟩⟩⟩⟩⟩ (ihlp46_28 w37 rw37 x41 (q42 + 1) ⟨h19_37, h20_37, h21_37, h22_37, hbb_37, hbl_37, hb3_37⟩ hF37 hgrw37 (by first | assumption | omega) (by exact mu_dec (by assumption) (by omega) (by omega) (by omega)))
                · refine J_iconst (pc := 75) (v := nI 1) dX8_withOrder_75 (by decide) ?_
                  refine J_goto (pc := 76) (tgt := 80) dX8_withOrder_76 (by decide) ?_
                  refine J_iadd (pc := 80) dX8_withOrder_80 (J_absI fun x43 => ?_)
                  refine J_istore_n (pc := 81) dX8_withOrder_81 rfl (by decide) rfl ?_
                  show J X mX8_withOrder d (kc - 13) (ks - 2054) 82 [some (.ref 19), some (.int (nI q1)), some (.int c), some (.int x43), some (.int (nI (c4 - 1)))] [] w37 _
                  refine J_aload_n (pc := 82) dX8_withOrder_82 rfl rfl rfl ?_
                  refine J_iload (pc := 83) dX8_withOrder_83 rfl ?_
                  refine J_iconst (pc := 85) (v := nI 1) dX8_withOrder_85 (by decide) ?_
                  refine J_iaddN (pc := 86) dX8_withOrder_86 ?_
                  refine J_callV0 (pc := 87) (as := [.int (nI ((c4 - 1) + 1))]) dX8_withOrder_87 fw_X8_from fl_X8_137 fm_X8_from fe_X8_from h19_37 (by decide) rfl rfl rfl (c_X8_from hs (d := d - 1) (by omega) (w := w37) (n := n) (mv := mv) (rw := rw37) (nx := nx9) (b := b9) (bt := bt9) (kn := kn9) (en := en9) (dn := dn) (rf := rf) (kk := kk) (th := nI (tW 0 0)) ⟨h19_37, h20_37, h21_37, h22_37, hbb_37, hbl_37, hb3_37⟩ hn1 hn2 gm hgrw37 hgnx9 ((c4 - 1) + 1) (by first | assumption | omega) (kc := 0) (ks := 0)) (by omega) (st := []) (Nat.le_of_ble_eq_true rfl) rfl (kr_P fun v44 hv44 => ?_) kx_I
                  rcases hv44 with ⟨rfl, hk44_0⟩ | ⟨q44, rfl, hk44_0, hk44_1, hk44_2, hk44_3⟩
                  · refine J_istore (pc := 90) dX8_withOrder_90 (by decide) rfl ?_
                    show J X mX8_withOrder d (kc - 13) (ks - 2054) 92 [some (.ref 19), some (.int (nI q1)), some (.int c), some (.int x43), some (.int (-1))] [] w37 _
                    refine J_goto (pc := 92) (tgt := 46) dX8_withOrder_92 (by decide) ?_
                    exact J_sub (L' := [some (.ref 19), some (.int (nI q1)), some (.int c), some (.int x43), some (.int (nI 0 + Int32.ofInt (-1)))]) ⟨rfl, ⟨rfl, ⟨rfl, ⟨rfl, ⟨(congrArg (fun z => some (Value.int z)) (by decide : (-1 : Int32) = nI 0 + Int32.ofInt (-1))), trivial⟩⟩⟩⟩⟩ (ihlp46_28 w37 rw37 x43 0 ⟨h19_37, h20_37, h21_37, h22_37, hbb_37, hbl_37, hb3_37⟩ hF37 hgrw37 (by first | assumption | omega) (by exact mu_dec (by assumption) (by omega) (by omega) (by omega)))
                  · refine J_istore (pc := 90) dX8_withOrder_90 (by decide) rfl ?_
                    show J X mX8_withOrder d (kc - 13) (ks - 2054) 92 [some (.ref 19), some (.int (nI q1)), some (.int c), some (.int x43), some (.int (nI q44))] [] w37 _
                    refine J_goto (pc := 92) (tgt := 46) dX8_withOrder_92 (by decide) ?_
                    exact J_sub (L' := [some (.ref 19), some (.int (nI q1)), some (.int c), some (.int x43), some (.int (nI (q44 + 1) + Int32.ofInt (-1)))]) ⟨rfl, ⟨rfl, ⟨rfl, ⟨rfl, ⟨(congrArg (fun z => some (Value.int z)) (nI_n1 q44)), trivial⟩⟩⟩⟩⟩ (ihlp46_28 w37 rw37 x43 (q44 + 1) ⟨h19_37, h20_37, h21_37, h22_37, hbb_37, hbl_37, hb3_37⟩ hF37 hgrw37 (by first | assumption | omega) (by exact mu_dec (by assumption) (by omega) (by omega) (by omega)))
          exact J_sub (L' := [some (.ref 19), some (.int (nI q1)), some (.int c), some (.int (nI 0)), some (.int (nI (q10 + 1) + Int32.ofInt (-1)))]) ⟨rfl, ⟨rfl, ⟨rfl, ⟨rfl, ⟨(congrArg (fun z => some (Value.int z)) (nI_n1 q10)), trivial⟩⟩⟩⟩⟩ (lp46_28 _ w9 rw9 (nI 0) (q10 + 1) ⟨h19_9, h20_9, h21_9, h22_9, hbb_9, hbl_9, hb3_9⟩ hF9 hgrw9 (by first | assumption | omega) (Nat.lt_succ_self _))
      · refine J_iconst (pc := 19) (v := nI 1) dX8_withOrder_19 (by decide) ?_
        refine J_goto (pc := 20) (tgt := 24) dX8_withOrder_20 (by decide) ?_
        refine J_callV0 (pc := 24) (as := [.int (nI 1)]) dX8_withOrder_24 fw_X8_isThrown_ fl_X8_105 fm_X8_isThrown_ fe_X8_isThrown_ h19 (by decide) rfl rfl rfl (c_X8_isThrown_ hs (d := d - 1) (by omega) (w := w) (n := n) (mv := mv) (rw := rw) (nx := nx) (b := b) (bt := bt) (kn := kn) (en := en) (dn := dn) (rf := rf) (kk := kk) (th := th) ⟨h19, h20, h21, h22, hbb, hbl, hb3⟩ hn1 hn2 gm gr gx 1 (by first | assumption | omega) (kc := 0) (ks := 0)) (by omega) (st := []) (Nat.le_of_ble_eq_true rfl) rfl (kr_I fun v45 w45 hv45 hw45 => ?_) kx_I
        obtain ⟨hR45, hFc45⟩ := hw45
        obtain ⟨h19_45, h20_45, h21_45, h22_45, hbb_45, hbl_45, hb3_45⟩ := hR45
        have hF45 := hF.tr hFc45
        subst hv45
        show J X mX8_withOrder d kc ks 27 [some (.ref 19), some (.int (nI q1)), some (.int c), none, none] [.int (nI 1)] w45 _
        refine J_if_eqN (pc := 27) (tgt := 32) dX8_withOrder_27 (by decide) (by decide) (fun h => absurd h (by decide)) (fun _ => ?_)
        refine J_iconst (pc := 30) (v := nI 0) dX8_withOrder_30 (by decide) ?_
        exact J_iret (pc := 31) dX8_withOrder_31 rfl ⟨trivial, ⟨rw, nx, b, bt, kn, en, nI (tW 1 0), ⟨h19_45, h20_45, h21_45, h22_45, hbb_45, hbl_45, hb3_45⟩, hF45, gr, gx, (by first | assumption | exact Or.inr (by assumption))⟩⟩
set_option maxRecDepth 100000 in
set_option maxHeartbeats 4000000 in
theorem c_X8_even {X : jX} (hs : X.1.stackTraces = false) {d : Nat} (hd : 5 ≤ d) {n : Nat} {mv rw nx : Nat → Nat} {b : Nat} {bt : List Int32} {kn en dn rf kk th : Int32} {w : List jC} (hR : RM n mv rw nx b bt kn en dn rf kk th w) (hn1 : 2 ≤ n) (hn2 : n ≤ 7) (gm : ∀ i, mv i < 7) (gr : ∀ i, rw i < 7) (gx : ∀ i, nx i < 7) (s : Int32) (hy0 : PM n mv) (hy1 : KB n kn bt) {kc ks : Nat} (hkc : 13 ≤ kc) (hks : 2054 ≤ ks) : jMet X mX8_even d kc ks [.ref 19, .int s] w (pI (fun _ => True) (fun w' => ∃ (rw' : Nat → Nat), ∃ (nx' : Nat → Nat), ∃ (b' : Nat), ∃ (bt' : List Int32), ∃ (kn' : Int32), ∃ (en' : Int32), ∃ (th' : Int32), RM n mv rw' nx' b' bt' kn' en' dn rf kk th' w' ∧ FR b b' w w' ∧ (∀ i, rw' i < 7) ∧ (∀ i, nx' i < 7) ∧ KB n kn' bt')) := by
  refine jMet_of hs (by decide +kernel) (Nat.le_of_ble_eq_true rfl) (L := [some (.ref 19), some (.int s)]) rfl ?_
  have hfc := fc_7 hn2
  have hfp := fc_pos n
  obtain ⟨h19, h20, h21, h22, hbb, hbl, hb3⟩ := hR
  have hF : FR b b w w := FR.rf
  refine J_aload_n (pc := 0) dX8_even_0 rfl rfl rfl ?_
  refine J_iload_n (pc := 1) dX8_even_1 rfl rfl ?_
  refine J_callS0 (pc := 2) (as := [.int s]) dX8_even_2 fw_X8_isSet fl_X8_134 fs_X8_isSet rfl (c_X8_isSet hs (d := d - 1) (by omega) (w := w) s (kc := 0) (ks := 0)) (by omega) (st := [.ref 19]) (Nat.le_of_ble_eq_true rfl) rfl (kr_P fun v1 hv1 => ?_) kx_I
  rcases hv1 with ⟨rfl, hk1_0⟩ | ⟨q1, rfl, hk1_0, rfl⟩
  · refine J_if_neN (pc := 5) (tgt := 12) dX8_even_5 (by decide) (by decide) (fun h => absurd h (by decide)) (fun _ => ?_)
    refine J_iconst (pc := 8) (v := nI 1) dX8_even_8 (by decide) ?_
    refine J_goto (pc := 9) (tgt := 13) dX8_even_9 (by decide) ?_
    refine J_callV0 (pc := 13) (as := [.int (nI 1)]) dX8_even_13 fw_X8_isThrown_ fl_X8_105 fm_X8_isThrown_ fe_X8_isThrown_ h19 (by decide) rfl rfl rfl (c_X8_isThrown_ hs (d := d - 1) (by omega) (w := w) (n := n) (mv := mv) (rw := rw) (nx := nx) (b := b) (bt := bt) (kn := kn) (en := en) (dn := dn) (rf := rf) (kk := kk) (th := th) ⟨h19, h20, h21, h22, hbb, hbl, hb3⟩ hn1 hn2 gm gr gx 1 (by first | assumption | omega) (kc := 0) (ks := 0)) (by omega) (st := []) (Nat.le_of_ble_eq_true rfl) rfl (kr_I fun v2 w2 hv2 hw2 => ?_) kx_I
    obtain ⟨hR2, hFc2⟩ := hw2
    obtain ⟨h19_2, h20_2, h21_2, h22_2, hbb_2, hbl_2, hb3_2⟩ := hR2
    have hF2 := hF.tr hFc2
    subst hv2
    show J X mX8_even d kc ks 16 [some (.ref 19), some (.int s)] [.int (nI 1)] w2 _
    refine J_if_eqN (pc := 16) (tgt := 23) dX8_even_16 (by decide) (by decide) (fun h => absurd h (by decide)) (fun _ => ?_)
    refine J_iconst (pc := 19) (v := nI 0) dX8_even_19 (by decide) ?_
    refine J_goto (pc := 20) (tgt := 28) dX8_even_20 (by decide) ?_
    exact J_iret (pc := 28) dX8_even_28 rfl ⟨trivial, ⟨rw, nx, b, bt, kn, en, nI (tW 1 0), ⟨h19_2, h20_2, h21_2, h22_2, hbb_2, hbl_2, hb3_2⟩, hF2, gr, gx, (by first | assumption | exact Or.inr (by assumption))⟩⟩
  · refine J_if_neN (pc := 5) (tgt := 12) dX8_even_5 (by decide) (by decide) (fun _ => ?_) (fun h => absurd h (by decide))
    refine J_iconst (pc := 12) (v := nI 0) dX8_even_12 (by decide) ?_
    refine J_callV0 (pc := 13) (as := [.int (nI 0)]) dX8_even_13 fw_X8_isThrown_ fl_X8_105 fm_X8_isThrown_ fe_X8_isThrown_ h19 (by decide) rfl rfl rfl (c_X8_isThrown_ hs (d := d - 1) (by omega) (w := w) (n := n) (mv := mv) (rw := rw) (nx := nx) (b := b) (bt := bt) (kn := kn) (en := en) (dn := dn) (rf := rf) (kk := kk) (th := th) ⟨h19, h20, h21, h22, hbb, hbl, hb3⟩ hn1 hn2 gm gr gx 0 (by first | assumption | omega) (kc := 0) (ks := 0)) (by omega) (st := []) (Nat.le_of_ble_eq_true rfl) rfl (kr_I fun v3 w3 hv3 hw3 => ?_) kx_I
    obtain ⟨hR3, hFc3⟩ := hw3
    obtain ⟨h19_3, h20_3, h21_3, h22_3, hbb_3, hbl_3, hb3_3⟩ := hR3
    have hF3 := hF.tr hFc3
    subst hv3
    show J X mX8_even d kc ks 16 [some (.ref 19), some (.int (nI q1))] [.int (nI 0)] w3 _
    refine J_if_eqN (pc := 16) (tgt := 23) dX8_even_16 (by decide) (by decide) (fun _ => ?_) (fun h => absurd h (by decide))
    refine J_aload_n (pc := 23) dX8_even_23 rfl rfl rfl ?_
    refine J_iload_n (pc := 24) dX8_even_24 rfl rfl ?_
    refine J_callV (pc := 25) (as := [.int (nI q1)]) dX8_even_25 fw_X8_evenNow fl_X8_194 fm_X8_evenNow fe_X8_evenNow h19_3 (by decide) rfl rfl rfl (c_X8_evenNow hs (d := d - 1) (by omega) (w := w3) (n := n) (mv := mv) (rw := rw) (nx := nx) (b := b) (bt := bt) (kn := kn) (en := en) (dn := dn) (rf := rf) (kk := kk) (th := nI (tW 0 0)) ⟨h19_3, h20_3, h21_3, h22_3, hbb_3, hbl_3, hb3_3⟩ hn1 hn2 gm gr gx q1 (by first | assumption | omega) (by first | assumption | omega) (by first | assumption | omega) (kc := 13) (ks := 2054) (Nat.le_refl _) (Nat.le_refl _)) (by omega) (by omega) (by omega) (st := []) (Nat.le_of_ble_eq_true rfl) rfl (kr_I fun v4 w4 hv4 hw4 => ?_) kx_I
    obtain ⟨rw4, nx4, b4, bt4, kn4, en4, hR4, hFc4, hgrw4, hgnx4, hp4_0, hp4_1⟩ := hw4
    obtain ⟨h19_4, h20_4, h21_4, h22_4, hbb_4, hbl_4, hb3_4⟩ := hR4
    have qd4 := hFc4.2.1
    have hF4 := hF3.tr hFc4
    exact J_iret (pc := 28) dX8_even_28 rfl ⟨trivial, ⟨rw4, nx4, b4, bt4, kn4, en4, nI (tW 0 0), ⟨h19_4, h20_4, h21_4, h22_4, hbb_4, hbl_4, hb3_4⟩, hF4, hgrw4, hgnx4, (by first | assumption | exact Or.inr (by assumption))⟩⟩
set_option maxRecDepth 100000 in
set_option maxHeartbeats 4000000 in
theorem c_X8_coloured {X : jX} (hs : X.1.stackTraces = false) {d : Nat} (hd : 1 ≤ d) {n : Nat} {mv rw nx : Nat → Nat} {b : Nat} {bt : List Int32} {kn en dn rf kk th : Int32} {w : List jC} (hR : RM n mv rw nx b bt kn en dn rf kk th w) (hn1 : 2 ≤ n) (hn2 : n ≤ 7) (gm : ∀ i, mv i < 7) (gr : ∀ i, rw i < 7) (gx : ∀ i, nx i < 7) (a : Nat) (c : Nat) (e : Nat) (hy0 : c < 6) (hy1 : 1 ≤ e) (hy2 : e ≤ 3) (hy3 : PM n mv) (hy4 : a < 3000) {kc ks : Nat} : jMet X mX8_coloured d kc ks [.ref 19, .int (nI a), .int (nI c), .int (nI e)] w (pI (fun v => ∃ k : Nat, v = nI k ∧ k < e ^ n) (fun w' => ∃ (nx' : Nat → Nat), RM n mv rw nx' b bt kn en dn rf kk th w' ∧ FR b b w w' ∧ (∀ i, nx' i < 7))) := by
  refine jMet_of hs (by decide +kernel) (Nat.le_of_ble_eq_true rfl) (L := [some (.ref 19), some (.int (nI a)), some (.int (nI c)), some (.int (nI e)), none, none, none]) rfl ?_
  have hfc := fc_7 hn2
  have hfp := fc_pos n
  obtain ⟨h19, h20, h21, h22, hbb, hbl, hb3⟩ := hR
  have hF : FR b b w w := FR.rf
  have hpw := pw_le (e := e) (n := n) hy2 hn2
  refine J_iload_n (pc := 0) dX8_coloured_0 rfl rfl ?_
  refine J_istore (pc := 1) dX8_coloured_1 (by decide) rfl ?_
  show J X mX8_coloured d kc ks 3 [some (.ref 19), some (.int (nI a)), some (.int (nI c)), some (.int (nI e)), some (.int (nI a)), none, none] [] w _
  refine J_iconst (pc := 3) (v := nI 0) dX8_coloured_3 (by decide) ?_
  refine J_istore (pc := 4) dX8_coloured_4 (by decide) rfl ?_
  show J X mX8_coloured d kc ks 6 [some (.ref 19), some (.int (nI a)), some (.int (nI c)), some (.int (nI e)), some (.int (nI a)), some (.int (nI 0)), none] [] w _
  have lp6_1 : ∀ (fuel : Nat) (w2 : List jC) (nx_6 : Nat → Nat) (y4 : Nat) (c5 : Nat), (RM n mv rw nx_6 b bt kn en dn rf kk th w2) → (FR b b w w2) → (∀ i, nx_6 i < 7) → (∀ p, p < c5 → nx_6 (mv (c * 7 + p)) < e) → (c5 ≤ n) → (y4 < 3000) → (n - c5 < fuel) → J X mX8_coloured d kc ks 6 [some (.ref 19), some (.int (nI a)), some (.int (nI c)), some (.int (nI e)), some (.int (nI y4)), some (.int (nI c5)), none] [] w2 (pI (fun v => ∃ k : Nat, v = nI k ∧ k < e ^ n) (fun w' => ∃ (nx' : Nat → Nat), RM n mv rw nx' b bt kn en dn rf kk th w' ∧ FR b b w w' ∧ (∀ i, nx' i < 7))) := by
    intro fuellp6_1
    induction fuellp6_1 with
    | zero => intros; omega
    | succ fuellp6_1 ihlp6_1 =>
      intro w2 nx_6 y4 c5 hR3 hF4 gx5 hv6_0 hv6_1 hv6_2 hf6
      obtain ⟨h19_7, h20_7, h21_7, h22_7, hb_7, hbl_7, hb3_7⟩ := hR3
      refine J_iload (pc := 6) dX8_coloured_6 rfl ?_
      refine J_aload_n (pc := 8) dX8_coloured_8 rfl rfl rfl ?_
      refine J_get (pc := 9) (k := 0) dX8_coloured_9 kC9 (by decide) ff_X8_7 h19_7 rfl ?_
      refine J_icmp_geN (pc := 12) (tgt := 43) dX8_coloured_12 (by decide) (by omega) (by omega) (fun ht8 => ?_) (fun hf9 => ?_)
      · have hall := col_all (e := e) (hy3 c hy0) (g := nx_6) (fun p hp => hv6_0 p (by omega))
        refine J_iconst (pc := 43) (v := nI 0) dX8_coloured_43 (by decide) ?_
        refine J_istore (pc := 44) dX8_coloured_44 (by decide) rfl ?_
        show J X mX8_coloured d kc ks 46 [some (.ref 19), some (.int (nI a)), some (.int (nI c)), some (.int (nI e)), some (.int (nI y4)), some (.int (nI 0)), none] [] w2 _
        refine J_aload_n (pc := 46) dX8_coloured_46 rfl rfl rfl ?_
        refine J_get (pc := 47) (k := 0) dX8_coloured_47 kC9 (by decide) ff_X8_7 h19_7 rfl ?_
        refine J_iconst (pc := 50) (v := nI 1) dX8_coloured_50 (by decide) ?_
        refine J_isubM (pc := 51) dX8_coloured_51 ?_
        refine J_istore (pc := 52) dX8_coloured_52 (by decide) rfl ?_
        show J X mX8_coloured d kc ks 54 [some (.ref 19), some (.int (nI a)), some (.int (nI c)), some (.int (nI e)), some (.int (nI y4)), some (.int (nI 0)), some (.int (nI n + Int32.ofInt (-1)))] [] w2 _
        have lp54_10 : ∀ (fuel : Nat) (y5 : Nat) (c6 : Nat), (y5 < e ^ (n - c6)) → (c6 ≤ n) → (y5 < 2200) → (c6 < fuel) → J X mX8_coloured d kc ks 54 [some (.ref 19), some (.int (nI a)), some (.int (nI c)), some (.int (nI e)), some (.int (nI y4)), some (.int (nI y5)), some (.int (nI c6 + Int32.ofInt (-1)))] [] w2 (pI (fun v => ∃ k : Nat, v = nI k ∧ k < e ^ n) (fun w' => ∃ (nx' : Nat → Nat), RM n mv rw nx' b bt kn en dn rf kk th w' ∧ FR b b w w' ∧ (∀ i, nx' i < 7))) := by
          intro fuellp54_10
          induction fuellp54_10 with
          | zero => intros; omega
          | succ fuellp54_10 ihlp54_10 =>
            intro y5 c6 hv54_0 hv54_1 hv54_2 hf11
            refine J_iload (pc := 54) dX8_coloured_54 rfl ?_
            refine J_if_ltM (pc := 56) (tgt := 79) dX8_coloured_56 (by decide) (by omega) (fun ht12 => ?_) (fun hf13 => ?_)
            · refine J_iload (pc := 79) dX8_coloured_79 rfl ?_
              exact J_iret (pc := 81) dX8_coloured_81 rfl ⟨⟨y5, rfl, by rw [show n = n - c6 by omega]; exact hv54_0⟩, ⟨nx_6, ⟨h19_7, h20_7, h21_7, h22_7, hb_7, hbl_7, hb3_7⟩, hF4, gx5⟩⟩
            · rw [nI_m1 hf13]
              refine J_iload (pc := 59) dX8_coloured_59 rfl ?_
              refine J_iload_n (pc := 61) dX8_coloured_61 rfl rfl ?_
              refine J_imulN (pc := 62) dX8_coloured_62 ?_
              refine J_aload_n (pc := 63) dX8_coloured_63 rfl rfl rfl ?_
              refine J_get (pc := 64) (k := 3) dX8_coloured_64 kC9 (by decide) ff_X8_20 h19_7 rfl ?_
              refine J_iload (pc := 67) dX8_coloured_67 rfl ?_
              refine J_ialdF (pc := 69) dX8_coloured_69 h22_7 (by omega) (by decide) ?_
              have hq14 := gx5 (c6 - 1)
              refine J_iaddN (pc := 70) dX8_coloured_70 ?_
              have hnx := hall (c6 - 1) (by omega)
              have hcs := pw_step (n := n) (c := c6) hv54_0 hnx (by omega) (by omega)
              refine J_istore (pc := 71) dX8_coloured_71 (by decide) rfl ?_
              show J X mX8_coloured d kc ks 73 [some (.ref 19), some (.int (nI a)), some (.int (nI c)), some (.int (nI e)), some (.int (nI y4)), some (.int (nI ((y5 * e) + (nx_6 (c6 - 1))))), some (.int (nI (c6 - 1)))] [] w2 _
              refine J_iinc (pc := 73) dX8_coloured_73 rfl rfl (by decide) rfl ?_
              show J X mX8_coloured d kc ks 76 [some (.ref 19), some (.int (nI a)), some (.int (nI c)), some (.int (nI e)), some (.int (nI y4)), some (.int (nI ((y5 * e) + (nx_6 (c6 - 1))))), some (.int (nI (c6 - 1) + Int32.ofInt (-1)))] [] w2 _
              refine J_goto (pc := 76) (tgt := 54) dX8_coloured_76 (by decide) ?_
              exact J_sub (L' := [some (.ref 19), some (.int (nI a)), some (.int (nI c)), some (.int (nI e)), some (.int (nI y4)), some (.int (nI ((y5 * e) + (nx_6 (c6 - 1))))), some (.int (nI (c6 - 1) + Int32.ofInt (-1)))]) ⟨rfl, ⟨rfl, ⟨rfl, ⟨rfl, ⟨rfl, ⟨rfl, ⟨rfl, trivial⟩⟩⟩⟩⟩⟩⟩ (ihlp54_10 ((y5 * e) + (nx_6 (c6 - 1))) (c6 - 1) (by rw [show n - (c6 - 1) = n - c6 + 1 by omega]; exact hcs) (by first | assumption | omega) (by exact Nat.lt_of_lt_of_le hcs (Nat.le_trans (pw_le2 hy2 (by omega)) (by decide))) (by omega))
        exact J_sub (L' := [some (.ref 19), some (.int (nI a)), some (.int (nI c)), some (.int (nI e)), some (.int (nI y4)), some (.int (nI 0)), some (.int (nI n + Int32.ofInt (-1)))]) ⟨rfl, ⟨rfl, ⟨rfl, ⟨rfl, ⟨rfl, ⟨rfl, ⟨rfl, trivial⟩⟩⟩⟩⟩⟩⟩ (lp54_10 _ 0 n (by rw [Nat.sub_self]; exact Nat.one_pos) (by first | assumption | omega) (by omega) (Nat.lt_succ_self _))
      · refine J_aload_n (pc := 15) dX8_coloured_15 rfl rfl rfl ?_
        refine J_get (pc := 16) (k := 3) dX8_coloured_16 kC9 (by decide) ff_X8_20 h19_7 rfl ?_
        refine J_aload_n (pc := 19) dX8_coloured_19 rfl rfl rfl ?_
        refine J_iload_n (pc := 20) dX8_coloured_20 rfl rfl ?_
        refine J_iload (pc := 21) dX8_coloured_21 rfl ?_
        refine J_callV0 (pc := 23) (as := [.int (nI c), .int (nI c5)]) dX8_coloured_23 fw_X8_at fl_X8_82 fm_X8_at fe_X8_at h19_7 (by decide) rfl rfl rfl (c_X8_at hs (d := d - 1) (by omega) (w := w2) (n := n) (mv := mv) (rw := rw) (nx := nx_6) (b := b) (bt := bt) (kn := kn) (en := en) (dn := dn) (rf := rf) (kk := kk) (th := th) ⟨h19_7, h20_7, h21_7, h22_7, hb_7, hbl_7, hb3_7⟩ hn1 hn2 gm gr gx5 c c5 (by first | assumption | omega) (by first | assumption | omega) (kc := 0) (ks := 0)) (by omega) (st := [.ref 22]) (Nat.le_of_ble_eq_true rfl) rfl (kr_P fun v15 hv15 => ?_) kx_I
        subst hv15
        have hq16 := gm (c * 7 + c5)
        refine J_iload (pc := 26) dX8_coloured_26 rfl ?_
        refine J_iload_n (pc := 28) dX8_coloured_28 rfl rfl ?_
        have hm17 := Nat.mod_lt y4 (show 0 < e by omega)
        have hm18 := Nat.div_le_self y4 e
        refine J_iremN (pc := 29) dX8_coloured_29 (by omega) (by omega) (by omega) ?_
        refine J_iastF (pc := 30) dX8_coloured_30 h22_7 (by omega) (by decide) (fun w19 hln19 hc19 hne19 => ?_)
        have hg19 : ∀ i, (up nx_6 (mv (c * 7 + c5)) (y4 % e)) i < 7 := up_b gx5 (by omega)
        have h19_19 := (hne19 19 (by omega)).trans h19_7
        have h20_19 := (hne19 20 (by omega)).trans h20_7
        have h21_19 := (hne19 21 (by omega)).trans h21_7
        have hb_19 := (hne19 _ (by omega)).trans hb_7
        have hF19 := hF4.st hln19 hne19 (Or.inl (by decide))
        refine J_iload (pc := 31) dX8_coloured_31 rfl ?_
        refine J_iload_n (pc := 33) dX8_coloured_33 rfl rfl ?_
        have hm20 := Nat.mod_lt y4 (show 0 < e by omega)
        have hm21 := Nat.div_le_self y4 e
        refine J_idivN (pc := 34) dX8_coloured_34 (by omega) (by omega) (by omega) ?_
        refine J_istore (pc := 35) dX8_coloured_35 (by decide) rfl ?_
        show J X mX8_coloured d kc ks 37 [some (.ref 19), some (.int (nI a)), some (.int (nI c)), some (.int (nI e)), some (.int (nI (y4 / e))), some (.int (nI c5)), none] [] w19 _
        refine J_iincN (pc := 37) (b := 1) dX8_coloured_37 rfl (by decide) (by decide) rfl ?_
        show J X mX8_coloured d kc ks 40 [some (.ref 19), some (.int (nI a)), some (.int (nI c)), some (.int (nI e)), some (.int (nI (y4 / e))), some (.int (nI (c5 + 1))), none] [] w19 _
        refine J_goto (pc := 40) (tgt := 6) dX8_coloured_40 (by decide) ?_
        exact J_sub (L' := [some (.ref 19), some (.int (nI a)), some (.int (nI c)), some (.int (nI e)), some (.int (nI (y4 / e))), some (.int (nI (c5 + 1))), none]) ⟨rfl, ⟨rfl, ⟨rfl, ⟨rfl, ⟨rfl, ⟨rfl, trivial⟩⟩⟩⟩⟩⟩ (ihlp6_1 w19 (up nx_6 (mv (c * 7 + c5)) (y4 % e)) (y4 / e) (c5 + 1) ⟨h19_19, h20_19, h21_19, hc19, hb_19, hbl_7, hb3_7⟩ hF19 hg19 (by intro p hp; by_cases q : p = c5; (subst q; rw [up_s]; omega); (rw [up_n (fun q2 => q ((hy3 c hy0).2 p c5 (by omega) (by omega) q2))]; exact hv6_0 p (by omega))) (by first | assumption | omega) (by first | assumption | omega) (by omega))
  exact J_sub (L' := [some (.ref 19), some (.int (nI a)), some (.int (nI c)), some (.int (nI e)), some (.int (nI a)), some (.int (nI 0)), none]) ⟨rfl, ⟨rfl, ⟨rfl, ⟨rfl, ⟨rfl, ⟨rfl, trivial⟩⟩⟩⟩⟩⟩ (lp6_1 _ w nx a 0 ⟨h19, h20, h21, h22, hbb, hbl, hb3⟩ hF gx (by intro p hp; omega) (by first | assumption | omega) (by first | assumption | omega) (Nat.lt_succ_self _))
