/-! contracts of the reference: rspec4 -/
set_option maxRecDepth 100000 in
set_option maxHeartbeats 40000000 in
theorem c_X8_part {X : jX} (hs : X.1.stackTraces = false) {d : Nat} (hd : 1 ≤ d) {n : Nat} {mv rw nx : Nat → Nat} {b : Nat} {bt : List Int32} {kn en dn rf kk th : Int32} {w : List jC} (hR : RM n mv rw nx b bt kn en dn rf kk th w) (hn1 : 2 ≤ n) (hn2 : n ≤ 7) (gm : ∀ i, mv i < 7) (gr : ∀ i, rw i < 7) (gx : ∀ i, nx i < 7) (s : Nat) (a : Nat) (c : Nat) (hy0 : s < 64) (hy1 : a < n) (hy2 : c < n) (hy3 : PM n mv) {kc ks : Nat} : jMet X mX8_part d kc ks [.ref 19, .int (nI s), .int (nI a), .int (nI c)] w (pV (fun w' => ∃ (rw' : Nat → Nat), RM n mv rw' nx b bt kn en dn rf kk th w' ∧ FR b b w w' ∧ (∀ i, rw' i < 7))) := by
  refine jMet_of hs (by decide +kernel) (Nat.le_of_ble_eq_true rfl) (L := [some (.ref 19), some (.int (nI s)), some (.int (nI a)), some (.int (nI c)), none, none, none, none]) rfl ?_
  have hdm : 0 ≤ d - 1 := by omega
  have hdp : d - 1 + 1 ≤ d := by omega
  have hfc := fc_7 hn2
  have hfp := fc_pos n
  obtain ⟨h19, h20, h21, h22, hbb, hbl, hb3⟩ := hR
  have hF : FR b b w w := FR.rf
  refine J_iconst (pc := 0) (v := nI 0) dX8_part_0 (by decide) ?_
  refine J_istore (pc := 1) dX8_part_1 (by decide) rfl ?_
  show J X mX8_part d kc ks 3 [some (.ref 19), some (.int (nI s)), some (.int (nI a)), some (.int (nI c)), some (.int (nI 0)), none, none, none] [] w _
  have lp3_1 : ∀ (fuel : Nat) (w2 : List jC) (rw_3 : Nat → Nat) (c4 : Nat), (RM n mv rw_3 nx b bt kn en dn rf kk th w2) → (FR b b w w2) → (∀ i, rw_3 i < 7) → (c4 ≤ n) → (n - c4 < fuel) → J X mX8_part d kc ks 3 [some (.ref 19), some (.int (nI s)), some (.int (nI a)), some (.int (nI c)), some (.int (nI c4)), none, none, none] [] w2 (pV (fun w' => ∃ (rw' : Nat → Nat), RM n mv rw' nx b bt kn en dn rf kk th w' ∧ FR b b w w' ∧ (∀ i, rw' i < 7))) := by
    intro fuellp3_1
    induction fuellp3_1 with
    | zero => intros; omega
    | succ fuellp3_1 ihlp3_1 =>
      intro w2 rw_3 c4 hR3 hF4 gr5 hv3_0 hf6
      obtain ⟨h19_7, h20_7, h21_7, h22_7, hb_7, hbl_7, hb3_7⟩ := hR3
      refine J_iload (pc := 3) dX8_part_3 rfl ?_
      refine J_aload_n (pc := 5) dX8_part_5 rfl rfl rfl ?_
      refine J_get (pc := 6) (k := 0) dX8_part_6 kC9 (by decide) ff_X8_7 h19_7 rfl ?_
      refine J_icmp_geN (pc := 9) (tgt := 27) dX8_part_9 (by decide) (by omega) (by omega) (fun ht8 => ?_) (fun hf9 => ?_)
      · refine J_aload_n (pc := 27) dX8_part_27 rfl rfl rfl ?_
        refine J_iload_n (pc := 28) dX8_part_28 rfl rfl ?_
        refine J_iload_n (pc := 29) dX8_part_29 rfl rfl ?_
        refine J_callV0 (pc := 30) (M := mX8_part) (as := [.int (nI a), .int (nI c)]) dX8_part_30 fw_X8_join fl_X8_217 fm_X8_join fe_X8_join h19_7 (by decide) rfl rfl rfl (c_X8_join hs (d := d - 1) (Nat.le_trans (by decide) hdm) (w := w2) (n := n) (mv := mv) (rw := rw_3) (nx := nx) (b := b) (bt := bt) (kn := kn) (en := en) (dn := dn) (rf := rf) (kk := kk) (th := th) ⟨h19_7, h20_7, h21_7, h22_7, hb_7, hbl_7, hb3_7⟩ hn1 hn2 gm gr5 gx a c (by first | assumption | omega) (by first | assumption | omega) (kc := 0) (ks := 0)) hdp (st := []) (Nat.le_of_ble_eq_true rfl) rfl (kr_V fun w10 hw10 => ?_) kx_V
        obtain ⟨rw10, hR10, hFc10, hgrw10, hp10_0⟩ := hw10
        obtain ⟨h19_10, h20_10, h21_10, h22_10, hbb_10, hbl_10, hb3_10⟩ := hR10
        have hF10 := hF4.tr hFc10
        refine J_iconst (pc := 33) (v := nI 1) dX8_part_33 (by decide) ?_
        refine J_istore (pc := 34) dX8_part_34 (by decide) rfl ?_
        show J X mX8_part d kc ks 36 [some (.ref 19), some (.int (nI s)), some (.int (nI a)), some (.int (nI c)), some (.int (nI 1)), none, none, none] [] w10 _
        have lp36_11 : ∀ (fuel : Nat) (w12 : List jC) (rw_36 : Nat → Nat) (u4 : Nat), (RM n mv rw_36 nx b bt kn en dn rf kk th w12) → (FR b b w w12) → (∀ i, rw_36 i < 7) → (u4 < 2) → (2 * Dn n rw_36 + u4 < fuel) → J X mX8_part d kc ks 36 [some (.ref 19), some (.int (nI s)), some (.int (nI a)), some (.int (nI c)), some (.int (nI u4)), none, none, none] [] w12 (pV (fun w' => ∃ (rw' : Nat → Nat), RM n mv rw' nx b bt kn en dn rf kk th w' ∧ FR b b w w' ∧ (∀ i, rw' i < 7))) := by
          intro fuellp36_11
          induction fuellp36_11 with
          | zero => intros; omega
          | succ fuellp36_11 ihlp36_11 =>
            intro w12 rw_36 u4 hR13 hF14 gr15 hv36_0 hf16
            obtain ⟨h19_17, h20_17, h21_17, h22_17, hb_17, hbl_17, hb3_17⟩ := hR13
            refine J_iload (pc := 36) dX8_part_36 rfl ?_
            refine J_if_eqN (pc := 38) (tgt := 178) dX8_part_38 (by decide) (by omega) (fun ht18 => ?_) (fun hf19 => ?_)
            · exact J_vret (pc := 178) dX8_part_178 rfl (⟨rw_36, ⟨h19_17, h20_17, h21_17, h22_17, hb_17, hbl_17, hb3_17⟩, hF14, gr15⟩)
            · refine J_iconst (pc := 41) (v := nI 0) dX8_part_41 (by decide) ?_
              refine J_istore (pc := 42) dX8_part_42 (by decide) rfl ?_
              show J X mX8_part d kc ks 44 [some (.ref 19), some (.int (nI s)), some (.int (nI a)), some (.int (nI c)), some (.int (nI 0)), none, none, none] [] w12 _
              refine J_iconst (pc := 44) (v := nI 0) dX8_part_44 (by decide) ?_
              refine J_istore (pc := 45) dX8_part_45 (by decide) rfl ?_
              show J X mX8_part d kc ks 47 [some (.ref 19), some (.int (nI s)), some (.int (nI a)), some (.int (nI c)), some (.int (nI 0)), some (.int (nI 0)), none, none] [] w12 _
              have lp47_20 : ∀ (fuel : Nat) (w21 : List jC) (rw_47 : Nat → Nat) (v4 : Nat) (c5 : Nat), (RM n mv rw_47 nx b bt kn en dn rf kk th w21) → (FR b b w w21) → (∀ i, rw_47 i < 7) → (v4 < 2) → (Dn n rw_47 ≤ Dn n rw_36) → (v4 = 1 → Dn n rw_47 < Dn n rw_36) → (c5 ≤ 6) → (6 - c5 < fuel) → J X mX8_part d kc ks 47 [some (.ref 19), some (.int (nI s)), some (.int (nI a)), some (.int (nI c)), some (.int (nI v4)), some (.int (nI c5)), none, none] [] w21 (pV (fun w' => ∃ (rw' : Nat → Nat), RM n mv rw' nx b bt kn en dn rf kk th w' ∧ FR b b w w' ∧ (∀ i, rw' i < 7))) := by
                intro fuellp47_20
                induction fuellp47_20 with
                | zero => intros; omega
                | succ fuellp47_20 ihlp47_20 =>
                  intro w21 rw_47 v4 c5 hR22 hF23 gr24 hv47_0 hv47_1 hv47_2 hv47_3 hf25
                  obtain ⟨h19_26, h20_26, h21_26, h22_26, hb_26, hbl_26, hb3_26⟩ := hR22
                  refine J_iload (pc := 47) dX8_part_47 rfl ?_
                  refine J_bipush (pc := 49) (v := nI 6) dX8_part_49 (by decide) ?_
                  refine J_icmp_geN (pc := 51) (tgt := 175) dX8_part_51 (by decide) (by omega) (by omega) (fun ht27 => ?_) (fun hf28 => ?_)
                  · refine J_goto (pc := 175) (tgt := 36) dX8_part_175 (by decide) ?_
                    exact J_sub (L' := [some (.ref 19), some (.int (nI s)), some (.int (nI a)), some (.int (nI c)), some (.int (nI v4)), none, none, none]) ⟨rfl, ⟨rfl, ⟨rfl, ⟨rfl, ⟨rfl, trivial⟩⟩⟩⟩⟩ (ihlp36_11 w21 rw_47 v4 ⟨h19_26, h20_26, h21_26, h22_26, hb_26, hbl_26, hb3_26⟩ hF23 gr24 (by first | assumption | omega) (by omega))
                  · refine J_iload_n (pc := 54) dX8_part_54 rfl rfl ?_
                    refine J_iload (pc := 55) dX8_part_55 rfl ?_
                    refine J_ishrN (pc := 57) dX8_part_57 (by omega) (by omega) ?_
                    refine J_iconst (pc := 58) (v := nI 1) dX8_part_58 (by decide) ?_
                    have hm29 := Nat.mod_lt (s / 2 ^ c5) (show 0 < 2 ^ 1 by decide)
                    have hm30 := Nat.div_le_self s (2 ^ c5)
                    refine J_iandN (pc := 59) 1 dX8_part_59 (by omega) (by decide) ?_
                    refine J_if_neN (pc := 60) (tgt := 66) dX8_part_60 (by decide) (by omega) (fun ht31 => ?_) (fun hf32 => ?_)
                    · refine J_iconst (pc := 66) (v := nI 0) dX8_part_66 (by decide) ?_
                      refine J_istore (pc := 67) dX8_part_67 (by decide) rfl ?_
                      show J X mX8_part d kc ks 69 [some (.ref 19), some (.int (nI s)), some (.int (nI a)), some (.int (nI c)), some (.int (nI v4)), some (.int (nI c5)), some (.int (nI 0)), none] [] w21 _
                      have lp69_33 : ∀ (fuel : Nat) (w34 : List jC) (rw_69 : Nat → Nat) (s4 : Nat) (c6 : Nat), (RM n mv rw_69 nx b bt kn en dn rf kk th w34) → (FR b b w w34) → (∀ i, rw_69 i < 7) → (s4 < 2) → (Dn n rw_69 ≤ Dn n rw_36) → (s4 = 1 → Dn n rw_69 < Dn n rw_36) → (c6 ≤ n) → (n - c6 < fuel) → J X mX8_part d kc ks 69 [some (.ref 19), some (.int (nI s)), some (.int (nI a)), some (.int (nI c)), some (.int (nI s4)), some (.int (nI c5)), some (.int (nI c6)), none] [] w34 (pV (fun w' => ∃ (rw' : Nat → Nat), RM n mv rw' nx b bt kn en dn rf kk th w' ∧ FR b b w w' ∧ (∀ i, rw' i < 7))) := by
                        intro fuellp69_33
                        induction fuellp69_33 with
                        | zero => intros; omega
                        | succ fuellp69_33 ihlp69_33 =>
                          intro w34 rw_69 s4 c6 hR35 hF36 gr37 hv69_0 hv69_1 hv69_2 hv69_3 hf38
                          obtain ⟨h19_39, h20_39, h21_39, h22_39, hb_39, hbl_39, hb3_39⟩ := hR35
                          refine J_iload (pc := 69) dX8_part_69 rfl ?_
                          refine J_aload_n (pc := 71) dX8_part_71 rfl rfl rfl ?_
                          refine J_get (pc := 72) (k := 0) dX8_part_72 kC9 (by decide) ff_X8_7 h19_39 rfl ?_
                          refine J_icmp_geN (pc := 75) (tgt := 169) dX8_part_75 (by decide) (by omega) (by omega) (fun ht40 => ?_) (fun hf41 => ?_)
                          · refine J_iincN (pc := 169) (b := 1) dX8_part_169 rfl (by decide) (by decide) rfl ?_
                            show J X mX8_part d kc ks 172 [some (.ref 19), some (.int (nI s)), some (.int (nI a)), some (.int (nI c)), some (.int (nI s4)), some (.int (nI (c5 + 1))), some (.int (nI c6)), none] [] w34 _
                            refine J_goto (pc := 172) (tgt := 47) dX8_part_172 (by decide) ?_
                            exact J_sub (L' := [some (.ref 19), some (.int (nI s)), some (.int (nI a)), some (.int (nI c)), some (.int (nI s4)), some (.int (nI (c5 + 1))), none, none]) ⟨rfl, ⟨rfl, ⟨rfl, ⟨rfl, ⟨rfl, ⟨rfl, trivial⟩⟩⟩⟩⟩⟩ (ihlp47_20 w34 rw_69 s4 (c5 + 1) ⟨h19_39, h20_39, h21_39, h22_39, hb_39, hbl_39, hb3_39⟩ hF36 gr37 (by first | assumption | omega) (by first | assumption | omega) (by first | assumption | omega) (by first | assumption | omega) (by omega))
                          · refine J_iconst (pc := 78) (v := nI 0) dX8_part_78 (by decide) ?_
                            refine J_istore (pc := 79) dX8_part_79 (by decide) rfl ?_
                            show J X mX8_part d kc ks 81 [some (.ref 19), some (.int (nI s)), some (.int (nI a)), some (.int (nI c)), some (.int (nI s4)), some (.int (nI c5)), some (.int (nI c6)), some (.int (nI 0))] [] w34 _
                            have lp81_42 : ∀ (fuel : Nat) (w43 : List jC) (rw_81 : Nat → Nat) (t4 : Nat) (c7 : Nat), (RM n mv rw_81 nx b bt kn en dn rf kk th w43) → (FR b b w w43) → (∀ i, rw_81 i < 7) → (t4 < 2) → (Dn n rw_81 ≤ Dn n rw_36) → (t4 = 1 → Dn n rw_81 < Dn n rw_36) → (c7 ≤ c6) → (c6 - c7 < fuel) → J X mX8_part d kc ks 81 [some (.ref 19), some (.int (nI s)), some (.int (nI a)), some (.int (nI c)), some (.int (nI t4)), some (.int (nI c5)), some (.int (nI c6)), some (.int (nI c7))] [] w43 (pV (fun w' => ∃ (rw' : Nat → Nat), RM n mv rw' nx b bt kn en dn rf kk th w' ∧ FR b b w w' ∧ (∀ i, rw' i < 7))) := by
                              intro fuellp81_42
                              induction fuellp81_42 with
                              | zero => intros; omega
                              | succ fuellp81_42 ihlp81_42 =>
                                intro w43 rw_81 t4 c7 hR44 hF45 gr46 hv81_0 hv81_1 hv81_2 hv81_3 hf47
                                obtain ⟨h19_48, h20_48, h21_48, h22_48, hb_48, hbl_48, hb3_48⟩ := hR44
                                refine J_iload (pc := 81) dX8_part_81 rfl ?_
                                refine J_iload (pc := 83) dX8_part_83 rfl ?_
                                refine J_icmp_geN (pc := 85) (tgt := 163) dX8_part_85 (by decide) (by omega) (by omega) (fun ht49 => ?_) (fun hf50 => ?_)
                                · refine J_iincN (pc := 163) (b := 1) dX8_part_163 rfl (by decide) (by decide) rfl ?_
                                  show J X mX8_part d kc ks 166 [some (.ref 19), some (.int (nI s)), some (.int (nI a)), some (.int (nI c)), some (.int (nI t4)), some (.int (nI c5)), some (.int (nI (c6 + 1))), some (.int (nI c7))] [] w43 _
                                  refine J_goto (pc := 166) (tgt := 69) dX8_part_166 (by decide) ?_
                                  exact J_sub (L' := [some (.ref 19), some (.int (nI s)), some (.int (nI a)), some (.int (nI c)), some (.int (nI t4)), some (.int (nI c5)), some (.int (nI (c6 + 1))), none]) ⟨rfl, ⟨rfl, ⟨rfl, ⟨rfl, ⟨rfl, ⟨rfl, ⟨rfl, trivial⟩⟩⟩⟩⟩⟩⟩ (ihlp69_33 w43 rw_81 t4 (c6 + 1) ⟨h19_48, h20_48, h21_48, h22_48, hb_48, hbl_48, hb3_48⟩ hF45 gr46 (by first | assumption | omega) (by first | assumption | omega) (by first | assumption | omega) (by first | assumption | omega) (by omega))
                                · refine J_aload_n (pc := 88) dX8_part_88 rfl rfl rfl ?_
                                  refine J_get (pc := 89) (k := 2) dX8_part_89 kC9 (by decide) ff_X8_17 h19_48 rfl ?_
                                  refine J_iload (pc := 92) dX8_part_92 rfl ?_
                                  refine J_ialdF (pc := 94) dX8_part_94 h21_48 (by omega) (by decide) ?_
                                  have hq51 := gr46 c6
                                  refine J_aload_n (pc := 95) dX8_part_95 rfl rfl rfl ?_
                                  refine J_get (pc := 96) (k := 2) dX8_part_96 kC9 (by decide) ff_X8_17 h19_48 rfl ?_
                                  refine J_iload (pc := 99) dX8_part_99 rfl ?_
                                  refine J_ialdF (pc := 101) dX8_part_101 h21_48 (by omega) (by decide) ?_
                                  have hq52 := gr46 c7
                                  refine J_icmp_neN (pc := 102) (tgt := 157) dX8_part_102 (by decide) (by omega) (by omega) (fun ht53 => ?_) (fun hf54 => ?_)
                                  · refine J_iincN (pc := 157) (b := 1) dX8_part_157 rfl (by decide) (by decide) rfl ?_
                                    show J X mX8_part d kc ks 160 [some (.ref 19), some (.int (nI s)), some (.int (nI a)), some (.int (nI c)), some (.int (nI t4)), some (.int (nI c5)), some (.int (nI c6)), some (.int (nI (c7 + 1)))] [] w43 _
                                    refine J_goto (pc := 160) (tgt := 81) dX8_part_160 (by decide) ?_
                                    exact J_sub (L' := [some (.ref 19), some (.int (nI s)), some (.int (nI a)), some (.int (nI c)), some (.int (nI t4)), some (.int (nI c5)), some (.int (nI c6)), some (.int (nI (c7 + 1)))]) ⟨rfl, ⟨rfl, ⟨rfl, ⟨rfl, ⟨rfl, ⟨rfl, ⟨rfl, ⟨rfl, trivial⟩⟩⟩⟩⟩⟩⟩⟩ (ihlp81_42 w43 rw_81 t4 (c7 + 1) ⟨h19_48, h20_48, h21_48, h22_48, hb_48, hbl_48, hb3_48⟩ hF45 gr46 (by first | assumption | omega) (by first | assumption | omega) (by first | assumption | omega) (by first | assumption | omega) (by omega))
                                  · refine J_aload_n (pc := 105) dX8_part_105 rfl rfl rfl ?_
                                    refine J_get (pc := 106) (k := 2) dX8_part_106 kC9 (by decide) ff_X8_17 h19_48 rfl ?_
                                    refine J_aload_n (pc := 109) dX8_part_109 rfl rfl rfl ?_
                                    refine J_iload (pc := 110) dX8_part_110 rfl ?_
                                    refine J_iload (pc := 112) dX8_part_112 rfl ?_
                                    refine J_callV0 (pc := 114) (M := mX8_part) (as := [.int (nI c5), .int (nI c6)]) dX8_part_114 fw_X8_at fl_X8_82 fm_X8_at fe_X8_at h19_48 (by decide) rfl rfl rfl (c_X8_at hs (d := d - 1) (Nat.le_trans (by decide) hdm) (w := w43) (n := n) (mv := mv) (rw := rw_81) (nx := nx) (b := b) (bt := bt) (kn := kn) (en := en) (dn := dn) (rf := rf) (kk := kk) (th := th) ⟨h19_48, h20_48, h21_48, h22_48, hb_48, hbl_48, hb3_48⟩ hn1 hn2 gm gr46 gx c5 c6 (by first | assumption | omega) (by first | assumption | omega) (kc := 0) (ks := 0)) hdp (st := [.ref 21]) (Nat.le_of_ble_eq_true rfl) rfl (kr_P fun v55 hv55 => ?_) kx_I
                                    subst hv55
                                    have hq56 := gm (c5 * 7 + c6)
                                    refine J_ialdF (pc := 117) dX8_part_117 h21_48 (by omega) (by decide) ?_
                                    have hq57 := gr46 (mv (c5 * 7 + c6))
                                    refine J_aload_n (pc := 118) dX8_part_118 rfl rfl rfl ?_
                                    refine J_get (pc := 119) (k := 2) dX8_part_119 kC9 (by decide) ff_X8_17 h19_48 rfl ?_
                                    refine J_aload_n (pc := 122) dX8_part_122 rfl rfl rfl ?_
                                    refine J_iload (pc := 123) dX8_part_123 rfl ?_
                                    refine J_iload (pc := 125) dX8_part_125 rfl ?_
                                    refine J_callV0 (pc := 127) (M := mX8_part) (as := [.int (nI c5), .int (nI c7)]) dX8_part_127 fw_X8_at fl_X8_82 fm_X8_at fe_X8_at h19_48 (by decide) rfl rfl rfl (c_X8_at hs (d := d - 1) (Nat.le_trans (by decide) hdm) (w := w43) (n := n) (mv := mv) (rw := rw_81) (nx := nx) (b := b) (bt := bt) (kn := kn) (en := en) (dn := dn) (rf := rf) (kk := kk) (th := th) ⟨h19_48, h20_48, h21_48, h22_48, hb_48, hbl_48, hb3_48⟩ hn1 hn2 gm gr46 gx c5 c7 (by first | assumption | omega) (by first | assumption | omega) (kc := 0) (ks := 0)) hdp (st := [.ref 21, .int (nI (rw_81 (mv (c5 * 7 + c6))))]) (Nat.le_of_ble_eq_true rfl) rfl (kr_P fun v58 hv58 => ?_) kx_I
                                    subst hv58
                                    have hq59 := gm (c5 * 7 + c7)
                                    refine J_ialdF (pc := 130) dX8_part_130 h21_48 (by omega) (by decide) ?_
                                    have hq60 := gr46 (mv (c5 * 7 + c7))
                                    refine J_icmp_eqN (pc := 131) (tgt := 157) dX8_part_131 (by decide) (by omega) (by omega) (fun ht61 => ?_) (fun hf62 => ?_)
                                    · refine J_iincN (pc := 157) (b := 1) dX8_part_157 rfl (by decide) (by decide) rfl ?_
                                      show J X mX8_part d kc ks 160 [some (.ref 19), some (.int (nI s)), some (.int (nI a)), some (.int (nI c)), some (.int (nI t4)), some (.int (nI c5)), some (.int (nI c6)), some (.int (nI (c7 + 1)))] [] w43 _
                                      refine J_goto (pc := 160) (tgt := 81) dX8_part_160 (by decide) ?_
                                      exact J_sub (L' := [some (.ref 19), some (.int (nI s)), some (.int (nI a)), some (.int (nI c)), some (.int (nI t4)), some (.int (nI c5)), some (.int (nI c6)), some (.int (nI (c7 + 1)))]) ⟨rfl, ⟨rfl, ⟨rfl, ⟨rfl, ⟨rfl, ⟨rfl, ⟨rfl, ⟨rfl, trivial⟩⟩⟩⟩⟩⟩⟩⟩ (ihlp81_42 w43 rw_81 t4 (c7 + 1) ⟨h19_48, h20_48, h21_48, h22_48, hb_48, hbl_48, hb3_48⟩ hF45 gr46 (by first | assumption | omega) (by first | assumption | omega) (by first | assumption | omega) (by first | assumption | omega) (by omega))
                                    · refine J_aload_n (pc := 134) dX8_part_134 rfl rfl rfl ?_
                                      refine J_aload_n (pc := 135) dX8_part_135 rfl rfl rfl ?_
                                      refine J_iload (pc := 136) dX8_part_136 rfl ?_
                                      refine J_iload (pc := 138) dX8_part_138 rfl ?_
                                      refine J_callV0 (pc := 140) (M := mX8_part) (as := [.int (nI c5), .int (nI c6)]) dX8_part_140 fw_X8_at fl_X8_82 fm_X8_at fe_X8_at h19_48 (by decide) rfl rfl rfl (c_X8_at hs (d := d - 1) (Nat.le_trans (by decide) hdm) (w := w43) (n := n) (mv := mv) (rw := rw_81) (nx := nx) (b := b) (bt := bt) (kn := kn) (en := en) (dn := dn) (rf := rf) (kk := kk) (th := th) ⟨h19_48, h20_48, h21_48, h22_48, hb_48, hbl_48, hb3_48⟩ hn1 hn2 gm gr46 gx c5 c6 (by first | assumption | omega) (by first | assumption | omega) (kc := 0) (ks := 0)) hdp (st := [.ref 19]) (Nat.le_of_ble_eq_true rfl) rfl (kr_P fun v63 hv63 => ?_) kx_I
                                      subst hv63
                                      have hq64 := gm (c5 * 7 + c6)
                                      refine J_aload_n (pc := 143) dX8_part_143 rfl rfl rfl ?_
                                      refine J_iload (pc := 144) dX8_part_144 rfl ?_
                                      refine J_iload (pc := 146) dX8_part_146 rfl ?_
                                      refine J_callV0 (pc := 148) (M := mX8_part) (as := [.int (nI c5), .int (nI c7)]) dX8_part_148 fw_X8_at fl_X8_82 fm_X8_at fe_X8_at h19_48 (by decide) rfl rfl rfl (c_X8_at hs (d := d - 1) (Nat.le_trans (by decide) hdm) (w := w43) (n := n) (mv := mv) (rw := rw_81) (nx := nx) (b := b) (bt := bt) (kn := kn) (en := en) (dn := dn) (rf := rf) (kk := kk) (th := th) ⟨h19_48, h20_48, h21_48, h22_48, hb_48, hbl_48, hb3_48⟩ hn1 hn2 gm gr46 gx c5 c7 (by first | assumption | omega) (by first | assumption | omega) (kc := 0) (ks := 0)) hdp (st := [.int (nI (mv (c5 * 7 + c6))), .ref 19]) (Nat.le_of_ble_eq_true rfl) rfl (kr_P fun v65 hv65 => ?_) kx_I
                                      subst hv65
                                      have hq66 := gm (c5 * 7 + c7)
                                      refine J_callV0 (pc := 151) (M := mX8_part) (as := [.int (nI (mv (c5 * 7 + c6))), .int (nI (mv (c5 * 7 + c7)))]) dX8_part_151 fw_X8_join fl_X8_217 fm_X8_join fe_X8_join h19_48 (by decide) rfl rfl rfl (c_X8_join hs (d := d - 1) (Nat.le_trans (by decide) hdm) (w := w43) (n := n) (mv := mv) (rw := rw_81) (nx := nx) (b := b) (bt := bt) (kn := kn) (en := en) (dn := dn) (rf := rf) (kk := kk) (th := th) ⟨h19_48, h20_48, h21_48, h22_48, hb_48, hbl_48, hb3_48⟩ hn1 hn2 gm gr46 gx (mv (c5 * 7 + c6)) (mv (c5 * 7 + c7)) (by first | assumption | omega) (by first | assumption | omega) (kc := 0) (ks := 0)) hdp (st := []) (Nat.le_of_ble_eq_true rfl) rfl (kr_V fun w67 hw67 => ?_) kx_V
                                      obtain ⟨rw67, hR67, hFc67, hgrw67, hp67_0⟩ := hw67
                                      obtain ⟨h19_67, h20_67, h21_67, h22_67, hbb_67, hbl_67, hb3_67⟩ := hR67
                                      have hF67 := hF45.tr hFc67
                                      have hDj := Dn_join hp67_0 ((hy3 c5 (by omega)).1 c6 (by omega)) ((hy3 c5 (by omega)).1 c7 (by omega)) (by assumption) (by assumption)
                                      refine J_iconst (pc := 154) (v := nI 1) dX8_part_154 (by decide) ?_
                                      refine J_istore (pc := 155) dX8_part_155 (by decide) rfl ?_
                                      show J X mX8_part d kc ks 157 [some (.ref 19), some (.int (nI s)), some (.int (nI a)), some (.int (nI c)), some (.int (nI 1)), some (.int (nI c5)), some (.int (nI c6)), some (.int (nI c7))] [] w67 _
                                      refine J_iincN (pc := 157) (b := 1) dX8_part_157 rfl (by decide) (by decide) rfl ?_
                                      show J X mX8_part d kc ks 160 [some (.ref 19), some (.int (nI s)), some (.int (nI a)), some (.int (nI c)), some (.int (nI 1)), some (.int (nI c5)), some (.int (nI c6)), some (.int (nI (c7 + 1)))] [] w67 _
                                      refine J_goto (pc := 160) (tgt := 81) dX8_part_160 (by decide) ?_
                                      exact J_sub (L' := [some (.ref 19), some (.int (nI s)), some (.int (nI a)), some (.int (nI c)), some (.int (nI 1)), some (.int (nI c5)), some (.int (nI c6)), some (.int (nI (c7 + 1)))]) ⟨rfl, ⟨rfl, ⟨rfl, ⟨rfl, ⟨rfl, ⟨rfl, ⟨rfl, ⟨rfl, trivial⟩⟩⟩⟩⟩⟩⟩⟩ (ihlp81_42 w67 rw67 1 (c7 + 1) ⟨h19_67, h20_67, h21_67, h22_67, hbb_67, hbl_67, hb3_67⟩ hF67 hgrw67 (by first | assumption | omega) (by first | assumption | omega) (by first | assumption | omega) (by first | assumption | omega) (by omega))
                            exact J_sub (L' := [some (.ref 19), some (.int (nI s)), some (.int (nI a)), some (.int (nI c)), some (.int (nI s4)), some (.int (nI c5)), some (.int (nI c6)), some (.int (nI 0))]) ⟨rfl, ⟨rfl, ⟨rfl, ⟨rfl, ⟨rfl, ⟨rfl, ⟨rfl, ⟨rfl, trivial⟩⟩⟩⟩⟩⟩⟩⟩ (lp81_42 _ w34 rw_69 s4 0 ⟨h19_39, h20_39, h21_39, h22_39, hb_39, hbl_39, hb3_39⟩ hF36 gr37 (by first | assumption | omega) (by assumption) (by assumption) (by first | assumption | omega) (Nat.lt_succ_self _))
                      exact J_sub (L' := [some (.ref 19), some (.int (nI s)), some (.int (nI a)), some (.int (nI c)), some (.int (nI v4)), some (.int (nI c5)), some (.int (nI 0)), none]) ⟨rfl, ⟨rfl, ⟨rfl, ⟨rfl, ⟨rfl, ⟨rfl, ⟨rfl, trivial⟩⟩⟩⟩⟩⟩⟩ (lp69_33 _ w21 rw_47 v4 0 ⟨h19_26, h20_26, h21_26, h22_26, hb_26, hbl_26, hb3_26⟩ hF23 gr24 (by first | assumption | omega) (by first | assumption | omega) (by first | assumption | omega) (by first | assumption | omega) (Nat.lt_succ_self _))
                    · refine J_goto (pc := 63) (tgt := 169) dX8_part_63 (by decide) ?_
                      refine J_iincN (pc := 169) (b := 1) dX8_part_169 rfl (by decide) (by decide) rfl ?_
                      show J X mX8_part d kc ks 172 [some (.ref 19), some (.int (nI s)), some (.int (nI a)), some (.int (nI c)), some (.int (nI v4)), some (.int (nI (c5 + 1))), none, none] [] w21 _
                      refine J_goto (pc := 172) (tgt := 47) dX8_part_172 (by decide) ?_
                      exact J_sub (L' := [some (.ref 19), some (.int (nI s)), some (.int (nI a)), some (.int (nI c)), some (.int (nI v4)), some (.int (nI (c5 + 1))), none, none]) ⟨rfl, ⟨rfl, ⟨rfl, ⟨rfl, ⟨rfl, ⟨rfl, trivial⟩⟩⟩⟩⟩⟩ (ihlp47_20 w21 rw_47 v4 (c5 + 1) ⟨h19_26, h20_26, h21_26, h22_26, hb_26, hbl_26, hb3_26⟩ hF23 gr24 (by first | assumption | omega) (by first | assumption | omega) (by first | assumption | omega) (by first | assumption | omega) (by omega))
              exact J_sub (L' := [some (.ref 19), some (.int (nI s)), some (.int (nI a)), some (.int (nI c)), some (.int (nI 0)), some (.int (nI 0)), none, none]) ⟨rfl, ⟨rfl, ⟨rfl, ⟨rfl, ⟨rfl, ⟨rfl, trivial⟩⟩⟩⟩⟩⟩ (lp47_20 _ w12 rw_36 0 0 ⟨h19_17, h20_17, h21_17, h22_17, hb_17, hbl_17, hb3_17⟩ hF14 gr15 (by first | assumption | omega) (by first | assumption | omega) (by first | assumption | omega) (by first | assumption | omega) (Nat.lt_succ_self _))
        exact J_sub (L' := [some (.ref 19), some (.int (nI s)), some (.int (nI a)), some (.int (nI c)), some (.int (nI 1)), none, none, none]) ⟨rfl, ⟨rfl, ⟨rfl, ⟨rfl, ⟨rfl, trivial⟩⟩⟩⟩⟩ (lp36_11 _ w10 rw10 1 ⟨h19_10, h20_10, h21_10, h22_10, hbb_10, hbl_10, hb3_10⟩ hF10 hgrw10 (by first | assumption | omega) (Nat.lt_succ_self _))
      · refine J_aload_n (pc := 12) dX8_part_12 rfl rfl rfl ?_
        refine J_get (pc := 13) (k := 2) dX8_part_13 kC9 (by decide) ff_X8_17 h19_7 rfl ?_
        refine J_iload (pc := 16) dX8_part_16 rfl ?_
        refine J_iload (pc := 18) dX8_part_18 rfl ?_
        refine J_iastF (pc := 20) dX8_part_20 h21_7 (by omega) (by decide) (fun w68 hln68 hc68 hne68 => ?_)
        have hg68 : ∀ i, (up rw_3 c4 c4) i < 7 := up_b gr5 (by omega)
        have h19_68 := (hne68 19 (by decide)).trans h19_7
        have h20_68 := (hne68 20 (by decide)).trans h20_7
        have h22_68 := (hne68 22 (by decide)).trans h22_7
        have hb_68 := (hne68 _ (Nat.ne_of_gt (Nat.lt_of_lt_of_le (by decide) hb3_7))).trans hb_7
        have hF68 := hF4.st hln68 hne68 (Or.inl (by decide))
        refine J_iincN (pc := 21) (b := 1) dX8_part_21 rfl (by decide) (by decide) rfl ?_
        show J X mX8_part d kc ks 24 [some (.ref 19), some (.int (nI s)), some (.int (nI a)), some (.int (nI c)), some (.int (nI (c4 + 1))), none, none, none] [] w68 _
        refine J_goto (pc := 24) (tgt := 3) dX8_part_24 (by decide) ?_
        exact J_sub (L' := [some (.ref 19), some (.int (nI s)), some (.int (nI a)), some (.int (nI c)), some (.int (nI (c4 + 1))), none, none, none]) ⟨rfl, ⟨rfl, ⟨rfl, ⟨rfl, ⟨rfl, trivial⟩⟩⟩⟩⟩ (ihlp3_1 w68 (up rw_3 c4 c4) (c4 + 1) ⟨h19_68, h20_68, hc68, h22_68, hb_68, hbl_7, hb3_7⟩ hF68 hg68 (by first | assumption | omega) (by omega))
  exact J_sub (L' := [some (.ref 19), some (.int (nI s)), some (.int (nI a)), some (.int (nI c)), some (.int (nI 0)), none, none, none]) ⟨rfl, ⟨rfl, ⟨rfl, ⟨rfl, ⟨rfl, trivial⟩⟩⟩⟩⟩ (lp3_1 _ w rw 0 ⟨h19, h20, h21, h22, hbb, hbl, hb3⟩ hF gr (by first | assumption | omega) (Nat.lt_succ_self _))
