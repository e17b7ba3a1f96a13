/-! contracts of the reference: rspec4 -/
set_option maxRecDepth 100000 in
set_option maxHeartbeats 40000000 in
theorem c_X8_isTwofold {X : jX} (hs : X.1.stackTraces = false) {d : Nat} (hd : 2 ≤ d) {n : Nat} {mv rw nx : Nat → Nat} {b : Nat} {bt : List Int32} {kn en dn rf kk th : Int32} {w : List jC} (hR : RM n mv rw nx b bt kn en dn rf kk th w) (hn1 : 2 ≤ n) (hn2 : n ≤ 7) (gm : ∀ i, mv i < 7) (gr : ∀ i, rw i < 7) (gx : ∀ i, nx i < 7) (s : Int32) {kc ks : Nat} (hkc : 1 ≤ kc) (hks : 49 ≤ ks) : jMet X mX8_isTwofold d kc ks [.ref 19, .int s] w (pI (fun v => ∃ k : Nat, v = nI k ∧ k < 2) (fun w' => ∃ (th' : Int32), RM n mv rw nx b bt kn en dn rf kk th' w' ∧ FR b b w w')) := by
  refine jMet_of hs (by decide +kernel) (Nat.le_of_ble_eq_true rfl) (L := [some (.ref 19), some (.int s), none, none, none, none, none, none]) rfl ?_
  have hdm : 1 ≤ d - 1 := by omega
  have hdp : d - 1 + 1 ≤ d := by omega
  have hfc := fc_7 hn2
  have hfp := fc_pos n
  obtain ⟨h19, h20, h21, h22, hbb, hbl, hb3⟩ := hR
  have hF : FR b b w w := FR.rf
  refine J_aload_n (pc := 0) dX8_isTwofold_0 rfl rfl rfl ?_
  refine J_iload_n (pc := 1) dX8_isTwofold_1 rfl rfl ?_
  refine J_callS0 (pc := 2) (M := mX8_isTwofold) (as := [.int s]) dX8_isTwofold_2 fw_X8_isSet fl_X8_134 fs_X8_isSet rfl (c_X8_isSet hs (d := d - 1) (Nat.le_trans (by decide) hdm) (w := w) s (kc := 0) (ks := 0)) hdp (st := [.ref 19]) (Nat.le_of_ble_eq_true rfl) rfl (kr_P fun v1 hv1 => ?_) kx_I
  rcases hv1 with ⟨rfl, hk1_0⟩ | ⟨q1, rfl, hk1_0, rfl⟩
  · refine J_if_neN (pc := 5) (tgt := 12) dX8_isTwofold_5 (by decide) (by decide) (fun h => absurd h (by decide)) (fun _ => ?_)
    refine J_iconst (pc := 8) (v := nI 1) dX8_isTwofold_8 (by decide) ?_
    refine J_goto (pc := 9) (tgt := 13) dX8_isTwofold_9 (by decide) ?_
    refine J_callV0 (pc := 13) (M := mX8_isTwofold) (as := [.int (nI 1)]) dX8_isTwofold_13 fw_X8_isThrown_ fl_X8_105 fm_X8_isThrown_ fe_X8_isThrown_ h19 (by decide) rfl rfl rfl (c_X8_isThrown_ hs (d := d - 1) (Nat.le_trans (by decide) hdm) (w := w) (n := n) (mv := mv) (rw := rw) (nx := nx) (b := b) (bt := bt) (kn := kn) (en := en) (dn := dn) (rf := rf) (kk := kk) (th := th) ⟨h19, h20, h21, h22, hbb, hbl, hb3⟩ hn1 hn2 gm gr gx 1 (by first | assumption | omega) (kc := 0) (ks := 0)) hdp (st := []) (Nat.le_of_ble_eq_true rfl) rfl (kr_I fun v2 w2 hv2 hw2 => ?_) kx_I
    obtain ⟨hR2, hFc2⟩ := hw2
    obtain ⟨h19_2, h20_2, h21_2, h22_2, hbb_2, hbl_2, hb3_2⟩ := hR2
    have hF2 := hF.tr hFc2
    subst hv2
    show J X mX8_isTwofold d kc ks 16 [some (.ref 19), some (.int s), none, none, none, none, none, none] [.int (nI 1)] w2 _
    refine J_if_eqN (pc := 16) (tgt := 21) dX8_isTwofold_16 (by decide) (by decide) (fun h => absurd h (by decide)) (fun _ => ?_)
    refine J_iconst (pc := 19) (v := nI 0) dX8_isTwofold_19 (by decide) ?_
    exact J_zret (pc := 20) dX8_isTwofold_20 rfl (nar_b (by first | decide | omega)) ⟨⟨0, rfl, by omega⟩, ⟨nI (tW 1 0), ⟨h19_2, h20_2, h21_2, h22_2, hbb_2, hbl_2, hb3_2⟩, hF2⟩⟩
  · refine J_if_neN (pc := 5) (tgt := 12) dX8_isTwofold_5 (by decide) (by decide) (fun _ => ?_) (fun h => absurd h (by decide))
    refine J_iconst (pc := 12) (v := nI 0) dX8_isTwofold_12 (by decide) ?_
    refine J_callV0 (pc := 13) (M := mX8_isTwofold) (as := [.int (nI 0)]) dX8_isTwofold_13 fw_X8_isThrown_ fl_X8_105 fm_X8_isThrown_ fe_X8_isThrown_ h19 (by decide) rfl rfl rfl (c_X8_isThrown_ hs (d := d - 1) (Nat.le_trans (by decide) hdm) (w := w) (n := n) (mv := mv) (rw := rw) (nx := nx) (b := b) (bt := bt) (kn := kn) (en := en) (dn := dn) (rf := rf) (kk := kk) (th := th) ⟨h19, h20, h21, h22, hbb, hbl, hb3⟩ hn1 hn2 gm gr gx 0 (by first | assumption | omega) (kc := 0) (ks := 0)) hdp (st := []) (Nat.le_of_ble_eq_true rfl) rfl (kr_I fun v3 w3 hv3 hw3 => ?_) kx_I
    obtain ⟨hR3, hFc3⟩ := hw3
    obtain ⟨h19_3, h20_3, h21_3, h22_3, hbb_3, hbl_3, hb3_3⟩ := hR3
    have hF3 := hF.tr hFc3
    subst hv3
    show J X mX8_isTwofold d kc ks 16 [some (.ref 19), some (.int (nI q1)), none, none, none, none, none, none] [.int (nI 0)] w3 _
    refine J_if_eqN (pc := 16) (tgt := 21) dX8_isTwofold_16 (by decide) (by decide) (fun _ => ?_) (fun h => absurd h (by decide))
    refine J_bipush (pc := 21) (v := nI 49) dX8_isTwofold_21 (by decide) ?_
    refine J_newW (pc := 23) (M := mX8_isTwofold) (N := 49) dX8_isTwofold_23 fa_int rfl (by omega) (by omega) (by omega) (fun a23 w4 ha4 hln4 hc4 hne4 => ?_)
    have q194 := gl h19_3
    have q204 := gl h20_3
    have q214 := gl h21_3
    have q224 := gl h22_3
    have qb4 := gl hbb_3
    have qF4 := hF3.1
    have h19_4 := (hne4 19 (by omega)).trans h19_3
    have h20_4 := (hne4 20 (by omega)).trans h20_3
    have h21_4 := (hne4 21 (by omega)).trans h21_3
    have h22_4 := (hne4 22 (by omega)).trans h22_3
    have hb_4 := (hne4 _ (by omega)).trans hbb_3
    have hF4 := hF3.pu ha4 hln4 hne4
    rw [aF_0] at hc4
    refine J_astore_n (pc := 25) dX8_isTwofold_25 rfl (by decide) rfl rfl ?_
    show J X mX8_isTwofold d (kc - 1) (ks - 49) 26 [some (.ref 19), some (.int (nI q1)), some (.ref a23), none, none, none, none, none] [] w4 _
    refine J_aload_n (pc := 26) dX8_isTwofold_26 rfl rfl rfl ?_
    refine J_iconst (pc := 27) (v := nI 1) dX8_isTwofold_27 (by decide) ?_
    refine J_iconst (pc := 28) (v := nI 1) dX8_isTwofold_28 (by decide) ?_
    refine J_iastF (pc := 29) dX8_isTwofold_29 hc4 (by omega) (by decide) (fun w5 hln5 hc5 hne5 => ?_)
    have h19_5 := (hne5 19 (by omega)).trans h19_4
    have h20_5 := (hne5 20 (by omega)).trans h20_4
    have h21_5 := (hne5 21 (by omega)).trans h21_4
    have h22_5 := (hne5 22 (by omega)).trans h22_4
    have hb_5 := (hne5 _ (by omega)).trans hb_4
    have hF5 := hF4.st hln5 hne5 (Or.inr (Or.inr (by omega)))
    refine J_iconst (pc := 30) (v := nI 1) dX8_isTwofold_30 (by decide) ?_
    refine J_istore_n (pc := 31) dX8_isTwofold_31 rfl (by decide) rfl ?_
    show J X mX8_isTwofold d (kc - 1) (ks - 49) 32 [some (.ref 19), some (.int (nI q1)), some (.ref a23), some (.int (nI 1)), none, none, none, none] [] w5 _
    refine J_iconst (pc := 32) (v := nI 1) dX8_isTwofold_32 (by decide) ?_
    refine J_istore (pc := 33) dX8_isTwofold_33 (by decide) rfl ?_
    show J X mX8_isTwofold d (kc - 1) (ks - 49) 35 [some (.ref 19), some (.int (nI q1)), some (.ref a23), some (.int (nI 1)), some (.int (nI 1)), none, none, none] [] w5 _
    have lp35_6 : ∀ (fuel : Nat) (w7 : List jC) (f23_35 : Nat → Nat) (z3 : Int32) (u4 : Nat), (RM n mv rw nx b bt kn en dn rf kk (nI (tW 0 0)) w7) → (FR b b w w7) → (w7[a23]? = some (aF 49 f23_35)) → (u4 < 2) → (∀ i, f23_35 i < 2) → (2 * (49 - (cnt (fun i => f23_35 i == 1) 49)) + u4 < fuel) → J X mX8_isTwofold d (kc - 1) (ks - 49) 35 [some (.ref 19), some (.int (nI q1)), some (.ref a23), some (.int z3), some (.int (nI u4)), none, none, none] [] w7 (pI (fun v => ∃ k : Nat, v = nI k ∧ k < 2) (fun w' => ∃ (th' : Int32), RM n mv rw nx b bt kn en dn rf kk th' w' ∧ FR b b w w')) := by
      intro fuellp35_6
      induction fuellp35_6 with
      | zero => intros; omega
      | succ fuellp35_6 ihlp35_6 =>
        intro w7 f23_35 z3 u4 hR8 hF9 hl10 hv35_0 hv35_1 hf11
        obtain ⟨h19_12, h20_12, h21_12, h22_12, hb_12, hbl_12, hb3_12⟩ := hR8
        refine J_iload (pc := 35) dX8_isTwofold_35 rfl ?_
        refine J_if_eqN (pc := 37) (tgt := 150) dX8_isTwofold_37 (by decide) (by omega) (fun ht13 => ?_) (fun hf14 => ?_)
        · refine J_iload_n (pc := 150) dX8_isTwofold_150 rfl rfl ?_
          refine J_aload_n (pc := 151) dX8_isTwofold_151 rfl rfl rfl ?_
          refine J_get (pc := 152) (k := 0) dX8_isTwofold_152 kC9 (by decide) ff_X8_7 h19_12 rfl ?_
          refine J_aload_n (pc := 155) dX8_isTwofold_155 rfl rfl rfl ?_
          refine J_get (pc := 156) (k := 0) dX8_isTwofold_156 kC9 (by decide) ff_X8_7 h19_12 rfl ?_
          refine J_iconst (pc := 159) (v := nI 1) dX8_isTwofold_159 (by decide) ?_
          refine J_isubN (pc := 160) dX8_isTwofold_160 (by omega) ?_
          refine J_imulN (pc := 161) dX8_isTwofold_161 ?_
          refine J_icmp_ne (pc := 162) (tgt := 169) dX8_isTwofold_162 (by decide) (fun ht15 => ?_) (fun hf16 => ?_)
          · refine J_iconst (pc := 169) (v := nI 0) dX8_isTwofold_169 (by decide) ?_
            exact J_zret (pc := 170) dX8_isTwofold_170 rfl (nar_b (by first | decide | omega)) ⟨⟨0, rfl, by omega⟩, ⟨nI (tW 0 0), ⟨h19_12, h20_12, h21_12, h22_12, hb_12, hbl_12, hb3_12⟩, hF9⟩⟩
          · refine J_iconst (pc := 165) (v := nI 1) dX8_isTwofold_165 (by decide) ?_
            refine J_goto (pc := 166) (tgt := 170) dX8_isTwofold_166 (by decide) ?_
            exact J_zret (pc := 170) dX8_isTwofold_170 rfl (nar_b (by first | decide | omega)) ⟨⟨1, rfl, by omega⟩, ⟨nI (tW 0 0), ⟨h19_12, h20_12, h21_12, h22_12, hb_12, hbl_12, hb3_12⟩, hF9⟩⟩
        · refine J_iconst (pc := 40) (v := nI 0) dX8_isTwofold_40 (by decide) ?_
          refine J_istore (pc := 41) dX8_isTwofold_41 (by decide) rfl ?_
          show J X mX8_isTwofold d (kc - 1) (ks - 49) 43 [some (.ref 19), some (.int (nI q1)), some (.ref a23), some (.int z3), some (.int (nI 0)), none, none, none] [] w7 _
          refine J_iconst (pc := 43) (v := nI 0) dX8_isTwofold_43 (by decide) ?_
          refine J_istore (pc := 44) dX8_isTwofold_44 (by decide) rfl ?_
          show J X mX8_isTwofold d (kc - 1) (ks - 49) 46 [some (.ref 19), some (.int (nI q1)), some (.ref a23), some (.int z3), some (.int (nI 0)), some (.int (nI 0)), none, none] [] w7 _
          have lp46_17 : ∀ (fuel : Nat) (w18 : List jC) (f23_46 : Nat → Nat) (z3 : Int32) (v4 : Nat) (c5 : Nat), (RM n mv rw nx b bt kn en dn rf kk (nI (tW 0 0)) w18) → (FR b b w w18) → (w18[a23]? = some (aF 49 f23_46)) → (v4 < 2) → (∀ i, f23_46 i < 2) → (cnt (fun i => f23_35 i == 1) 49 ≤ (cnt (fun i => f23_46 i == 1) 49)) → (v4 = 1 → cnt (fun i => f23_35 i == 1) 49 < (cnt (fun i => f23_46 i == 1) 49)) → (c5 ≤ 6) → (6 - c5 < fuel) → J X mX8_isTwofold d (kc - 1) (ks - 49) 46 [some (.ref 19), some (.int (nI q1)), some (.ref a23), some (.int z3), some (.int (nI v4)), some (.int (nI c5)), none, none] [] w18 (pI (fun v => ∃ k : Nat, v = nI k ∧ k < 2) (fun w' => ∃ (th' : Int32), RM n mv rw nx b bt kn en dn rf kk th' w' ∧ FR b b w w')) := by
            intro fuellp46_17
            induction fuellp46_17 with
            | zero => intros; omega
            | succ fuellp46_17 ihlp46_17 =>
              intro w18 f23_46 z3 v4 c5 hR19 hF20 hl21 hv46_0 hv46_1 hv46_2 hv46_3 hv46_4 hf22
              obtain ⟨h19_23, h20_23, h21_23, h22_23, hb_23, hbl_23, hb3_23⟩ := hR19
              refine J_iload (pc := 46) dX8_isTwofold_46 rfl ?_
              refine J_bipush (pc := 48) (v := nI 6) dX8_isTwofold_48 (by decide) ?_
              refine J_icmp_geN (pc := 50) (tgt := 147) dX8_isTwofold_50 (by decide) (by omega) (by omega) (fun ht24 => ?_) (fun hf25 => ?_)
              · have hcl := cnt_le (fun i => f23_46 i == 1) 49
                refine J_goto (pc := 147) (tgt := 35) dX8_isTwofold_147 (by decide) ?_
                exact J_sub (L' := [some (.ref 19), some (.int (nI q1)), some (.ref a23), some (.int z3), some (.int (nI v4)), none, none, none]) ⟨rfl, ⟨rfl, ⟨rfl, ⟨rfl, ⟨rfl, trivial⟩⟩⟩⟩⟩ (ihlp35_6 w18 f23_46 z3 v4 ⟨h19_23, h20_23, h21_23, h22_23, hb_23, hbl_23, hb3_23⟩ hF20 hl21 (by first | assumption | omega) (by assumption) (by omega))
              · refine J_iload_n (pc := 53) dX8_isTwofold_53 rfl rfl ?_
                refine J_iload (pc := 54) dX8_isTwofold_54 rfl ?_
                refine J_ishrN (pc := 56) dX8_isTwofold_56 (by omega) (by omega) ?_
                refine J_iconst (pc := 57) (v := nI 1) dX8_isTwofold_57 (by decide) ?_
                have hm26 := Nat.mod_lt (q1 / 2 ^ c5) (show 0 < 2 ^ 1 by decide)
                have hm27 := Nat.div_le_self q1 (2 ^ c5)
                refine J_iandN (pc := 58) 1 dX8_isTwofold_58 (by omega) (by decide) ?_
                refine J_if_neN (pc := 59) (tgt := 65) dX8_isTwofold_59 (by decide) (by omega) (fun ht28 => ?_) (fun hf29 => ?_)
                · refine J_iconst (pc := 65) (v := nI 0) dX8_isTwofold_65 (by decide) ?_
                  refine J_istore (pc := 66) dX8_isTwofold_66 (by decide) rfl ?_
                  show J X mX8_isTwofold d (kc - 1) (ks - 49) 68 [some (.ref 19), some (.int (nI q1)), some (.ref a23), some (.int z3), some (.int (nI v4)), some (.int (nI c5)), some (.int (nI 0)), none] [] w18 _
                  have lp68_30 : ∀ (fuel : Nat) (w31 : List jC) (f23_68 : Nat → Nat) (z3 : Int32) (x4 : Nat) (c6 : Nat), (RM n mv rw nx b bt kn en dn rf kk (nI (tW 0 0)) w31) → (FR b b w w31) → (w31[a23]? = some (aF 49 f23_68)) → (x4 < 2) → (∀ i, f23_68 i < 2) → (cnt (fun i => f23_35 i == 1) 49 ≤ (cnt (fun i => f23_68 i == 1) 49)) → (x4 = 1 → cnt (fun i => f23_35 i == 1) 49 < (cnt (fun i => f23_68 i == 1) 49)) → (c6 ≤ 49) → (49 - c6 < fuel) → J X mX8_isTwofold d (kc - 1) (ks - 49) 68 [some (.ref 19), some (.int (nI q1)), some (.ref a23), some (.int z3), some (.int (nI x4)), some (.int (nI c5)), some (.int (nI c6)), none] [] w31 (pI (fun v => ∃ k : Nat, v = nI k ∧ k < 2) (fun w' => ∃ (th' : Int32), RM n mv rw nx b bt kn en dn rf kk th' w' ∧ FR b b w w')) := by
                    intro fuellp68_30
                    induction fuellp68_30 with
                    | zero => intros; omega
                    | succ fuellp68_30 ihlp68_30 =>
                      intro w31 f23_68 z3 x4 c6 hR32 hF33 hl34 hv68_0 hv68_1 hv68_2 hv68_3 hv68_4 hf35
                      obtain ⟨h19_36, h20_36, h21_36, h22_36, hb_36, hbl_36, hb3_36⟩ := hR32
                      refine J_iload (pc := 68) dX8_isTwofold_68 rfl ?_
                      refine J_aload_n (pc := 70) dX8_isTwofold_70 rfl rfl rfl ?_
                      refine J_alen (pc := 71) (n := nI 49) dX8_isTwofold_71 hl34 (by decide) (by rw [List.length_map, List.length_range]; rfl) ?_
                      refine J_icmp_geN (pc := 72) (tgt := 141) dX8_isTwofold_72 (by decide) (by omega) (by omega) (fun ht37 => ?_) (fun hf38 => ?_)
                      · refine J_iincN (pc := 141) (b := 1) dX8_isTwofold_141 rfl (by decide) (by decide) rfl ?_
                        show J X mX8_isTwofold d (kc - 1) (ks - 49) 144 [some (.ref 19), some (.int (nI q1)), some (.ref a23), some (.int z3), some (.int (nI x4)), some (.int (nI (c5 + 1))), some (.int (nI c6)), none] [] w31 _
                        refine J_goto (pc := 144) (tgt := 46) dX8_isTwofold_144 (by decide) ?_
                        exact J_sub (L' := [some (.ref 19), some (.int (nI q1)), some (.ref a23), some (.int z3), some (.int (nI x4)), some (.int (nI (c5 + 1))), none, none]) ⟨rfl, ⟨rfl, ⟨rfl, ⟨rfl, ⟨rfl, ⟨rfl, trivial⟩⟩⟩⟩⟩⟩ (ihlp46_17 w31 f23_68 z3 x4 (c5 + 1) ⟨h19_36, h20_36, h21_36, h22_36, hb_36, hbl_36, hb3_36⟩ hF33 hl34 (by first | assumption | omega) (by assumption) (by first | assumption | omega) (by first | assumption | omega) (by first | assumption | omega) (by omega))
                      · refine J_aload_n (pc := 75) dX8_isTwofold_75 rfl rfl rfl ?_
                        refine J_iload (pc := 76) dX8_isTwofold_76 rfl ?_
                        refine J_ialdF (pc := 78) dX8_isTwofold_78 hl34 (by omega) (by decide) ?_
                        have hq79 := hv68_1 c6
                        refine J_if_neN (pc := 79) (tgt := 85) dX8_isTwofold_79 (by decide) (by omega) (fun ht39 => ?_) (fun hf40 => ?_)
                        · refine J_aload_n (pc := 85) dX8_isTwofold_85 rfl rfl rfl ?_
                          refine J_iload (pc := 86) dX8_isTwofold_86 rfl ?_
                          refine J_iload (pc := 88) dX8_isTwofold_88 rfl ?_
                          refine J_bipush (pc := 90) (v := nI 7) dX8_isTwofold_90 (by decide) ?_
                          have hm41 := Nat.mod_lt c6 (show 0 < 7 by omega)
                          have hm42 := Nat.div_le_self c6 7
                          refine J_idivN (pc := 92) dX8_isTwofold_92 (by omega) (by omega) (by omega) ?_
                          refine J_callV0 (pc := 93) (M := mX8_isTwofold) (as := [.int (nI c5), .int (nI (c6 / 7))]) dX8_isTwofold_93 fw_X8_at fl_X8_82 fm_X8_at fe_X8_at h19_36 (by decide) rfl rfl rfl (c_X8_at hs (d := d - 1) (Nat.le_trans (by decide) hdm) (w := w31) (n := n) (mv := mv) (rw := rw) (nx := nx) (b := b) (bt := bt) (kn := kn) (en := en) (dn := dn) (rf := rf) (kk := kk) (th := nI (tW 0 0)) ⟨h19_36, h20_36, h21_36, h22_36, hb_36, hbl_36, hb3_36⟩ hn1 hn2 gm gr gx c5 (c6 / 7) (by first | assumption | omega) (by first | assumption | omega) (kc := 0) (ks := 0)) hdp (st := []) (Nat.le_of_ble_eq_true rfl) rfl (kr_P fun v43 hv43 => ?_) kx_I
                          subst hv43
                          have hq44 := gm (c5 * 7 + (c6 / 7))
                          refine J_bipush (pc := 96) (v := nI 7) dX8_isTwofold_96 (by decide) ?_
                          refine J_imulN (pc := 98) dX8_isTwofold_98 ?_
                          refine J_aload_n (pc := 99) dX8_isTwofold_99 rfl rfl rfl ?_
                          refine J_iload (pc := 100) dX8_isTwofold_100 rfl ?_
                          refine J_iload (pc := 102) dX8_isTwofold_102 rfl ?_
                          refine J_bipush (pc := 104) (v := nI 7) dX8_isTwofold_104 (by decide) ?_
                          have hm45 := Nat.mod_lt c6 (show 0 < 7 by omega)
                          have hm46 := Nat.div_le_self c6 7
                          refine J_iremN (pc := 106) dX8_isTwofold_106 (by omega) (by omega) (by omega) ?_
                          refine J_callV0 (pc := 107) (M := mX8_isTwofold) (as := [.int (nI c5), .int (nI (c6 % 7))]) dX8_isTwofold_107 fw_X8_at fl_X8_82 fm_X8_at fe_X8_at h19_36 (by decide) rfl rfl rfl (c_X8_at hs (d := d - 1) (Nat.le_trans (by decide) hdm) (w := w31) (n := n) (mv := mv) (rw := rw) (nx := nx) (b := b) (bt := bt) (kn := kn) (en := en) (dn := dn) (rf := rf) (kk := kk) (th := nI (tW 0 0)) ⟨h19_36, h20_36, h21_36, h22_36, hb_36, hbl_36, hb3_36⟩ hn1 hn2 gm gr gx c5 (c6 % 7) (by first | assumption | omega) (by first | assumption | omega) (kc := 0) (ks := 0)) hdp (st := [.int (nI ((mv (c5 * 7 + (c6 / 7))) * 7))]) (Nat.le_of_ble_eq_true rfl) rfl (kr_P fun v47 hv47 => ?_) kx_I
                          subst hv47
                          have hq48 := gm (c5 * 7 + (c6 % 7))
                          refine J_iaddN (pc := 110) dX8_isTwofold_110 ?_
                          refine J_istore (pc := 111) dX8_isTwofold_111 (by decide) rfl ?_
                          show J X mX8_isTwofold d (kc - 1) (ks - 49) 113 [some (.ref 19), some (.int (nI q1)), some (.ref a23), some (.int z3), some (.int (nI x4)), some (.int (nI c5)), some (.int (nI c6)), some (.int (nI (((mv (c5 * 7 + (c6 / 7))) * 7) + (mv (c5 * 7 + (c6 % 7))))))] [] w31 _
                          refine J_aload_n (pc := 113) dX8_isTwofold_113 rfl rfl rfl ?_
                          refine J_iload (pc := 114) dX8_isTwofold_114 rfl ?_
                          refine J_ialdF (pc := 116) dX8_isTwofold_116 hl34 (by omega) (by decide) ?_
                          refine J_iconst (pc := 117) (v := nI 1) dX8_isTwofold_117 (by decide) ?_
                          have hq118 := hv68_1 (((mv (c5 * 7 + (c6 / 7))) * 7) + (mv (c5 * 7 + (c6 % 7))))
                          refine J_icmp_neN (pc := 118) (tgt := 124) dX8_isTwofold_118 (by decide) (by omega) (by omega) (fun ht49 => ?_) (fun hf50 => ?_)
                          · refine J_aload_n (pc := 124) dX8_isTwofold_124 rfl rfl rfl ?_
                            refine J_iload (pc := 125) dX8_isTwofold_125 rfl ?_
                            refine J_iconst (pc := 127) (v := nI 1) dX8_isTwofold_127 (by decide) ?_
                            refine J_iastF (pc := 128) dX8_isTwofold_128 hl34 (by omega) (by decide) (fun w51 hln51 hc51 hne51 => ?_)
                            have h19_51 := (hne51 19 (by omega)).trans h19_36
                            have h20_51 := (hne51 20 (by omega)).trans h20_36
                            have h21_51 := (hne51 21 (by omega)).trans h21_36
                            have h22_51 := (hne51 22 (by omega)).trans h22_36
                            have hb_51 := (hne51 _ (by omega)).trans hb_36
                            have hF51 := hF33.st hln51 hne51 (Or.inr (Or.inr (by omega)))
                            have hcu := cnt_up1 (P := f23_68) (K := 49) (j := (((mv (c5 * 7 + (c6 / 7))) * 7) + (mv (c5 * 7 + (c6 % 7))))) (by omega) (by omega)
                            refine J_iinc (pc := 129) dX8_isTwofold_129 rfl rfl (by decide) rfl ?_
                            generalize z3 + Int32.ofInt 1 = x52
                            show J X mX8_isTwofold d (kc - 1) (ks - 49) 132 [some (.ref 19), some (.int (nI q1)), some (.ref a23), some (.int x52), some (.int (nI x4)), some (.int (nI c5)), some (.int (nI c6)), some (.int (nI (((mv (c5 * 7 + (c6 / 7))) * 7) + (mv (c5 * 7 + (c6 % 7))))))] [] w51 _
                            refine J_iconst (pc := 132) (v := nI 1) dX8_isTwofold_132 (by decide) ?_
                            refine J_istore (pc := 133) dX8_isTwofold_133 (by decide) rfl ?_
                            show J X mX8_isTwofold d (kc - 1) (ks - 49) 135 [some (.ref 19), some (.int (nI q1)), some (.ref a23), some (.int x52), some (.int (nI 1)), some (.int (nI c5)), some (.int (nI c6)), some (.int (nI (((mv (c5 * 7 + (c6 / 7))) * 7) + (mv (c5 * 7 + (c6 % 7))))))] [] w51 _
                            refine J_iincN (pc := 135) (b := 1) dX8_isTwofold_135 rfl (by decide) (by decide) rfl ?_
                            show J X mX8_isTwofold d (kc - 1) (ks - 49) 138 [some (.ref 19), some (.int (nI q1)), some (.ref a23), some (.int x52), some (.int (nI 1)), some (.int (nI c5)), some (.int (nI (c6 + 1))), some (.int (nI (((mv (c5 * 7 + (c6 / 7))) * 7) + (mv (c5 * 7 + (c6 % 7))))))] [] w51 _
                            refine J_goto (pc := 138) (tgt := 68) dX8_isTwofold_138 (by decide) ?_
                            exact J_sub (L' := [some (.ref 19), some (.int (nI q1)), some (.ref a23), some (.int x52), some (.int (nI 1)), some (.int (nI c5)), some (.int (nI (c6 + 1))), none]) ⟨rfl, ⟨rfl, ⟨rfl, ⟨rfl, ⟨rfl, ⟨rfl, ⟨rfl, trivial⟩⟩⟩⟩⟩⟩⟩ (ihlp68_30 w51 (up f23_68 (((mv (c5 * 7 + (c6 / 7))) * 7) + (mv (c5 * 7 + (c6 % 7)))) 1) x52 1 (c6 + 1) ⟨h19_51, h20_51, h21_51, h22_51, hb_51, hbl_36, hb3_36⟩ hF51 hc51 (by first | assumption | omega) (by first | assumption | exact up_b hv68_1 (by decide)) (by first | assumption | omega) (by first | assumption | omega) (by first | assumption | omega) (by omega))
                          · refine J_goto (pc := 121) (tgt := 135) dX8_isTwofold_121 (by decide) ?_
                            refine J_iincN (pc := 135) (b := 1) dX8_isTwofold_135 rfl (by decide) (by decide) rfl ?_
                            show J X mX8_isTwofold d (kc - 1) (ks - 49) 138 [some (.ref 19), some (.int (nI q1)), some (.ref a23), some (.int z3), some (.int (nI x4)), some (.int (nI c5)), some (.int (nI (c6 + 1))), some (.int (nI (((mv (c5 * 7 + (c6 / 7))) * 7) + (mv (c5 * 7 + (c6 % 7))))))] [] w31 _
                            refine J_goto (pc := 138) (tgt := 68) dX8_isTwofold_138 (by decide) ?_
                            exact J_sub (L' := [some (.ref 19), some (.int (nI q1)), some (.ref a23), some (.int z3), some (.int (nI x4)), some (.int (nI c5)), some (.int (nI (c6 + 1))), none]) ⟨rfl, ⟨rfl, ⟨rfl, ⟨rfl, ⟨rfl, ⟨rfl, ⟨rfl, trivial⟩⟩⟩⟩⟩⟩⟩ (ihlp68_30 w31 f23_68 z3 x4 (c6 + 1) ⟨h19_36, h20_36, h21_36, h22_36, hb_36, hbl_36, hb3_36⟩ hF33 hl34 (by first | assumption | omega) (by first | assumption | exact up_b hv68_1 (by decide)) (by first | assumption | omega) (by first | assumption | omega) (by first | assumption | omega) (by omega))
                        · refine J_goto (pc := 82) (tgt := 135) dX8_isTwofold_82 (by decide) ?_
                          refine J_iincN (pc := 135) (b := 1) dX8_isTwofold_135 rfl (by decide) (by decide) rfl ?_
                          show J X mX8_isTwofold d (kc - 1) (ks - 49) 138 [some (.ref 19), some (.int (nI q1)), some (.ref a23), some (.int z3), some (.int (nI x4)), some (.int (nI c5)), some (.int (nI (c6 + 1))), none] [] w31 _
                          refine J_goto (pc := 138) (tgt := 68) dX8_isTwofold_138 (by decide) ?_
                          exact J_sub (L' := [some (.ref 19), some (.int (nI q1)), some (.ref a23), some (.int z3), some (.int (nI x4)), some (.int (nI c5)), some (.int (nI (c6 + 1))), none]) ⟨rfl, ⟨rfl, ⟨rfl, ⟨rfl, ⟨rfl, ⟨rfl, ⟨rfl, trivial⟩⟩⟩⟩⟩⟩⟩ (ihlp68_30 w31 f23_68 z3 x4 (c6 + 1) ⟨h19_36, h20_36, h21_36, h22_36, hb_36, hbl_36, hb3_36⟩ hF33 hl34 (by first | assumption | omega) (by first | assumption | exact up_b hv68_1 (by decide)) (by first | assumption | omega) (by first | assumption | omega) (by first | assumption | omega) (by omega))
                  exact J_sub (L' := [some (.ref 19), some (.int (nI q1)), some (.ref a23), some (.int z3), some (.int (nI v4)), some (.int (nI c5)), some (.int (nI 0)), none]) ⟨rfl, ⟨rfl, ⟨rfl, ⟨rfl, ⟨rfl, ⟨rfl, ⟨rfl, trivial⟩⟩⟩⟩⟩⟩⟩ (lp68_30 _ w18 f23_46 z3 v4 0 ⟨h19_23, h20_23, h21_23, h22_23, hb_23, hbl_23, hb3_23⟩ hF20 hl21 (by first | assumption | omega) (by assumption) (by assumption) (by assumption) (by first | assumption | omega) (Nat.lt_succ_self _))
                · refine J_goto (pc := 62) (tgt := 141) dX8_isTwofold_62 (by decide) ?_
                  refine J_iincN (pc := 141) (b := 1) dX8_isTwofold_141 rfl (by decide) (by decide) rfl ?_
                  show J X mX8_isTwofold d (kc - 1) (ks - 49) 144 [some (.ref 19), some (.int (nI q1)), some (.ref a23), some (.int z3), some (.int (nI v4)), some (.int (nI (c5 + 1))), none, none] [] w18 _
                  refine J_goto (pc := 144) (tgt := 46) dX8_isTwofold_144 (by decide) ?_
                  exact J_sub (L' := [some (.ref 19), some (.int (nI q1)), some (.ref a23), some (.int z3), some (.int (nI v4)), some (.int (nI (c5 + 1))), none, none]) ⟨rfl, ⟨rfl, ⟨rfl, ⟨rfl, ⟨rfl, ⟨rfl, trivial⟩⟩⟩⟩⟩⟩ (ihlp46_17 w18 f23_46 z3 v4 (c5 + 1) ⟨h19_23, h20_23, h21_23, h22_23, hb_23, hbl_23, hb3_23⟩ hF20 hl21 (by first | assumption | omega) (by assumption) (by first | assumption | omega) (by first | assumption | omega) (by first | assumption | omega) (by omega))
          exact J_sub (L' := [some (.ref 19), some (.int (nI q1)), some (.ref a23), some (.int z3), some (.int (nI 0)), some (.int (nI 0)), none, none]) ⟨rfl, ⟨rfl, ⟨rfl, ⟨rfl, ⟨rfl, ⟨rfl, trivial⟩⟩⟩⟩⟩⟩ (lp46_17 _ w7 f23_35 z3 0 0 ⟨h19_12, h20_12, h21_12, h22_12, hb_12, hbl_12, hb3_12⟩ hF9 hl10 (by first | assumption | omega) (by assumption) (by first | assumption | omega) (by first | assumption | omega) (by first | assumption | omega) (Nat.lt_succ_self _))
    exact J_sub (L' := [some (.ref 19), some (.int (nI q1)), some (.ref a23), some (.int (nI 1)), some (.int (nI 1)), none, none, none]) ⟨rfl, ⟨rfl, ⟨rfl, ⟨rfl, ⟨rfl, trivial⟩⟩⟩⟩⟩ (lp35_6 _ w5 (up (fun _ => 0) 1 1) (nI 1) 1 ⟨h19_5, h20_5, h21_5, h22_5, hb_5, hbl_3, hb3_3⟩ hF5 hc5 (by first | assumption | omega) (by exact up_b (fun _ => by decide) (by decide)) (Nat.lt_succ_self _))
set_option maxRecDepth 100000 in
set_option maxHeartbeats 40000000 in
theorem c_X8_enoughNow {X : jX} (hs : X.1.stackTraces = false) {d : Nat} (hd : 4 ≤ d) {n : Nat} {mv rw nx : Nat → Nat} {b : Nat} {bt : List Int32} {kn en dn rf kk th : Int32} {w : List jC} (hR : RM n mv rw nx b bt kn en dn rf kk th w) (hn1 : 2 ≤ n) (hn2 : n ≤ 7) (gm : ∀ i, mv i < 7) (gr : ∀ i, rw i < 7) (gx : ∀ i, nx i < 7) (s : Nat) (hy0 : s < 64) (hy1 : PM n mv) (hy2 : KX n mv kn bt) {kc ks : Nat} (hkc : 13 ≤ kc) (hks : 2054 ≤ ks) : jMet X mX8_enoughNow d kc ks [.ref 19, .int (nI s)] w (pI (fun _ => True) (fun w' => ∃ (rw' : Nat → Nat), ∃ (nx' : Nat → Nat), ∃ (b' : Nat), ∃ (bt' : List Int32), ∃ (kn' : Int32), ∃ (en' : Int32), RM n mv rw' nx' b' bt' kn' en' dn rf kk th w' ∧ FR b b' w w' ∧ (∀ i, rw' i < 7) ∧ (∀ i, nx' i < 7) ∧ kn' = nI s ∧ BX n mv s bt')) := by
  refine jMet_of hs (by decide +kernel) (Nat.le_of_ble_eq_true rfl) (L := [some (.ref 19), some (.int (nI s))]) rfl ?_
  have hdm : 3 ≤ d - 1 := by omega
  have hdp : d - 1 + 1 ≤ d := by omega
  have hfc := fc_7 hn2
  have hfp := fc_pos n
  obtain ⟨h19, h20, h21, h22, hbb, hbl, hb3⟩ := hR
  have hF : FR b b w w := FR.rf
  refine J_aload_n (pc := 0) dX8_enoughNow_0 rfl rfl rfl ?_
  refine J_iload_n (pc := 1) dX8_enoughNow_1 rfl rfl ?_
  refine J_callV (pc := 2) (M := mX8_enoughNow) (as := [.int (nI s)]) dX8_enoughNow_2 fw_X8_group fl_X8_99 fm_X8_group fe_X8_group h19 (by decide) rfl rfl rfl (c_X8_group_ate hs (d := d - 1) (Nat.le_trans (by decide) hdm) (w := w) (n := n) (mv := mv) (rw := rw) (nx := nx) (b := b) (bt := bt) (kn := kn) (en := en) (dn := dn) (rf := rf) (kk := kk) (th := th) ⟨h19, h20, h21, h22, hbb, hbl, hb3⟩ hn1 hn2 gm gr gx s (by first | assumption | omega) (by first | assumption | omega) (by first | assumption | omega) (kc := 13) (ks := 2054) (Nat.le_refl _) (Nat.le_refl _)) hdp (by omega) (by omega) (st := []) (Nat.le_of_ble_eq_true rfl) rfl (kr_V fun w1 hw1 => ?_) kx_V
  obtain ⟨rw1, nx1, b1, bt1, kn1, en1, hR1, hFc1, hgrw1, hgnx1, hp1_0, hp1_1⟩ := hw1
  obtain ⟨h19_1, h20_1, h21_1, h22_1, hbb_1, hbl_1, hb3_1⟩ := hR1
  have qd1 := hFc1.2.1
  have hF1 := hF.tr hFc1
  refine J_aload_n (pc := 5) dX8_enoughNow_5 rfl rfl rfl ?_
  refine J_get (pc := 6) (k := 6) dX8_enoughNow_6 kC9 (by decide) ff_X8_85 h19_1 rfl ?_
  exact J_iret (pc := 9) dX8_enoughNow_9 rfl ⟨trivial, ⟨rw1, nx1, b1, bt1, kn1, en1, ⟨h19_1, h20_1, h21_1, h22_1, hbb_1, hbl_1, hb3_1⟩, hF1, hgrw1, hgnx1, (by first | assumption | omega), (by first | assumption | omega)⟩⟩
set_option maxRecDepth 100000 in
set_option maxHeartbeats 40000000 in
theorem c_X8_enough {X : jX} (hs : X.1.stackTraces = false) {d : Nat} (hd : 5 ≤ d) {n : Nat} {mv rw nx : Nat → Nat} {b : Nat} {bt : List Int32} {kn en dn rf kk th : Int32} {w : List jC} (hR : RM n mv rw nx b bt kn en dn rf kk th w) (hn1 : 2 ≤ n) (hn2 : n ≤ 7) (gm : ∀ i, mv i < 7) (gr : ∀ i, rw i < 7) (gx : ∀ i, nx i < 7) (s : Int32) (hy0 : PM n mv) (hy1 : KX n mv kn bt) {kc ks : Nat} (hkc : 13 ≤ kc) (hks : 2054 ≤ ks) : jMet X mX8_enough d kc ks [.ref 19, .int s] w (pI (fun _ => True) (fun w' => ∃ (rw' : Nat → Nat), ∃ (nx' : Nat → Nat), ∃ (b' : Nat), ∃ (bt' : List Int32), ∃ (kn' : Int32), ∃ (en' : Int32), ∃ (th' : Int32), RM n mv rw' nx' b' bt' kn' en' dn rf kk th' w' ∧ FR b b' w w' ∧ (∀ i, rw' i < 7) ∧ (∀ i, nx' i < 7) ∧ KX n mv kn' bt')) := by
  refine jMet_of hs (by decide +kernel) (Nat.le_of_ble_eq_true rfl) (L := [some (.ref 19), some (.int s)]) rfl ?_
  have hdm : 4 ≤ d - 1 := by omega
  have hdp : d - 1 + 1 ≤ d := by omega
  have hfc := fc_7 hn2
  have hfp := fc_pos n
  obtain ⟨h19, h20, h21, h22, hbb, hbl, hb3⟩ := hR
  have hF : FR b b w w := FR.rf
  refine J_aload_n (pc := 0) dX8_enough_0 rfl rfl rfl ?_
  refine J_iload_n (pc := 1) dX8_enough_1 rfl rfl ?_
  refine J_callS0 (pc := 2) (M := mX8_enough) (as := [.int s]) dX8_enough_2 fw_X8_isSet fl_X8_134 fs_X8_isSet rfl (c_X8_isSet hs (d := d - 1) (Nat.le_trans (by decide) hdm) (w := w) s (kc := 0) (ks := 0)) hdp (st := [.ref 19]) (Nat.le_of_ble_eq_true rfl) rfl (kr_P fun v1 hv1 => ?_) kx_I
  rcases hv1 with ⟨rfl, hk1_0⟩ | ⟨q1, rfl, hk1_0, rfl⟩
  · refine J_if_neN (pc := 5) (tgt := 12) dX8_enough_5 (by decide) (by decide) (fun h => absurd h (by decide)) (fun _ => ?_)
    refine J_iconst (pc := 8) (v := nI 1) dX8_enough_8 (by decide) ?_
    refine J_goto (pc := 9) (tgt := 13) dX8_enough_9 (by decide) ?_
    refine J_callV0 (pc := 13) (M := mX8_enough) (as := [.int (nI 1)]) dX8_enough_13 fw_X8_isThrown_ fl_X8_105 fm_X8_isThrown_ fe_X8_isThrown_ h19 (by decide) rfl rfl rfl (c_X8_isThrown_ hs (d := d - 1) (Nat.le_trans (by decide) hdm) (w := w) (n := n) (mv := mv) (rw := rw) (nx := nx) (b := b) (bt := bt) (kn := kn) (en := en) (dn := dn) (rf := rf) (kk := kk) (th := th) ⟨h19, h20, h21, h22, hbb, hbl, hb3⟩ hn1 hn2 gm gr gx 1 (by first | assumption | omega) (kc := 0) (ks := 0)) hdp (st := []) (Nat.le_of_ble_eq_true rfl) rfl (kr_I fun v2 w2 hv2 hw2 => ?_) kx_I
    obtain ⟨hR2, hFc2⟩ := hw2
    obtain ⟨h19_2, h20_2, h21_2, h22_2, hbb_2, hbl_2, hb3_2⟩ := hR2
    have hF2 := hF.tr hFc2
    subst hv2
    show J X mX8_enough d kc ks 16 [some (.ref 19), some (.int s)] [.int (nI 1)] w2 _
    refine J_if_eqN (pc := 16) (tgt := 23) dX8_enough_16 (by decide) (by decide) (fun h => absurd h (by decide)) (fun _ => ?_)
    refine J_iconst (pc := 19) (v := nI 0) dX8_enough_19 (by decide) ?_
    refine J_goto (pc := 20) (tgt := 28) dX8_enough_20 (by decide) ?_
    exact J_iret (pc := 28) dX8_enough_28 rfl ⟨trivial, ⟨rw, nx, b, bt, kn, en, nI (tW 1 0), ⟨h19_2, h20_2, h21_2, h22_2, hbb_2, hbl_2, hb3_2⟩, hF2, gr, gx, (by first | assumption | exact KX_i (by assumption) (by omega) (by first | rfl | assumption))⟩⟩
  · refine J_if_neN (pc := 5) (tgt := 12) dX8_enough_5 (by decide) (by decide) (fun _ => ?_) (fun h => absurd h (by decide))
    refine J_iconst (pc := 12) (v := nI 0) dX8_enough_12 (by decide) ?_
    refine J_callV0 (pc := 13) (M := mX8_enough) (as := [.int (nI 0)]) dX8_enough_13 fw_X8_isThrown_ fl_X8_105 fm_X8_isThrown_ fe_X8_isThrown_ h19 (by decide) rfl rfl rfl (c_X8_isThrown_ hs (d := d - 1) (Nat.le_trans (by decide) hdm) (w := w) (n := n) (mv := mv) (rw := rw) (nx := nx) (b := b) (bt := bt) (kn := kn) (en := en) (dn := dn) (rf := rf) (kk := kk) (th := th) ⟨h19, h20, h21, h22, hbb, hbl, hb3⟩ hn1 hn2 gm gr gx 0 (by first | assumption | omega) (kc := 0) (ks := 0)) hdp (st := []) (Nat.le_of_ble_eq_true rfl) rfl (kr_I fun v3 w3 hv3 hw3 => ?_) kx_I
    obtain ⟨hR3, hFc3⟩ := hw3
    obtain ⟨h19_3, h20_3, h21_3, h22_3, hbb_3, hbl_3, hb3_3⟩ := hR3
    have hF3 := hF.tr hFc3
    subst hv3
    show J X mX8_enough d kc ks 16 [some (.ref 19), some (.int (nI q1))] [.int (nI 0)] w3 _
    refine J_if_eqN (pc := 16) (tgt := 23) dX8_enough_16 (by decide) (by decide) (fun _ => ?_) (fun h => absurd h (by decide))
    refine J_aload_n (pc := 23) dX8_enough_23 rfl rfl rfl ?_
    refine J_iload_n (pc := 24) dX8_enough_24 rfl rfl ?_
    refine J_callV (pc := 25) (M := mX8_enough) (as := [.int (nI q1)]) dX8_enough_25 fw_X8_enoughNow fl_X8_224 fm_X8_enoughNow fe_X8_enoughNow h19_3 (by decide) rfl rfl rfl (c_X8_enoughNow hs (d := d - 1) (Nat.le_trans (by decide) hdm) (w := w3) (n := n) (mv := mv) (rw := rw) (nx := nx) (b := b) (bt := bt) (kn := kn) (en := en) (dn := dn) (rf := rf) (kk := kk) (th := nI (tW 0 0)) ⟨h19_3, h20_3, h21_3, h22_3, hbb_3, hbl_3, hb3_3⟩ hn1 hn2 gm gr gx q1 (by first | assumption | omega) (by first | assumption | omega) (by first | assumption | omega) (kc := 13) (ks := 2054) (Nat.le_refl _) (Nat.le_refl _)) hdp (by omega) (by omega) (st := []) (Nat.le_of_ble_eq_true rfl) rfl (kr_I fun v4 w4 hv4 hw4 => ?_) kx_I
    obtain ⟨rw4, nx4, b4, bt4, kn4, en4, hR4, hFc4, hgrw4, hgnx4, hp4_0, hp4_1⟩ := hw4
    obtain ⟨h19_4, h20_4, h21_4, h22_4, hbb_4, hbl_4, hb3_4⟩ := hR4
    have qd4 := hFc4.2.1
    have hF4 := hF3.tr hFc4
    exact J_iret (pc := 28) dX8_enough_28 rfl ⟨trivial, ⟨rw4, nx4, b4, bt4, kn4, en4, nI (tW 0 0), ⟨h19_4, h20_4, h21_4, h22_4, hbb_4, hbl_4, hb3_4⟩, hF4, hgrw4, hgnx4, (by first | assumption | exact KX_i (by assumption) (by omega) (by first | rfl | assumption))⟩⟩
set_option maxRecDepth 100000 in
set_option maxHeartbeats 40000000 in
theorem c_X8_houseNow {X : jX} (hs : X.1.stackTraces = false) {d : Nat} (hd : 0 ≤ d) {n : Nat} {mv rw nx : Nat → Nat} {b : Nat} {bt : List Int32} {kn en dn rf kk th : Int32} {w : List jC} (hR : RM n mv rw nx b bt kn en dn rf kk th w) (hn1 : 2 ≤ n) (hn2 : n ≤ 7) (gm : ∀ i, mv i < 7) (gr : ∀ i, rw i < 7) (gx : ∀ i, nx i < 7) (a : Int32) {kc ks : Nat} : jMet X mX8_houseNow d kc ks [.ref 19, .int a] w (pI (fun _ => True) (fun w' => w' = w)) := by
  refine jMet_of hs (by decide +kernel) (Nat.le_of_ble_eq_true rfl) (L := [some (.ref 19), some (.int a)]) rfl ?_
  have hfc := fc_7 hn2
  have hfp := fc_pos n
  obtain ⟨h19, h20, h21, h22, hbb, hbl, hb3⟩ := hR
  have hF : FR b b w w := FR.rf
  refine J_iload_n (pc := 0) dX8_houseNow_0 rfl rfl ?_
  refine J_if_ne (pc := 1) (tgt := 11) dX8_houseNow_1 (by decide) (fun ht1 => ?_) (fun hf2 => ?_)
  · refine J_iload_n (pc := 11) dX8_houseNow_11 rfl rfl ?_
    refine J_iconst (pc := 12) (v := nI 1) dX8_houseNow_12 (by decide) ?_
    refine J_icmp_ne (pc := 13) (tgt := 23) dX8_houseNow_13 (by decide) (fun ht3 => ?_) (fun hf4 => ?_)
    · refine J_aload_n (pc := 23) dX8_houseNow_23 rfl rfl rfl ?_
      refine J_get (pc := 24) (k := 9) dX8_houseNow_24 kC9 (by decide) ff_X8_227 h19 rfl ?_
      exact J_iret (pc := 27) dX8_houseNow_27 rfl ⟨trivial, rfl⟩
    · refine J_aload_n (pc := 16) dX8_houseNow_16 rfl rfl rfl ?_
      refine J_get (pc := 17) (k := 8) dX8_houseNow_17 kC9 (by decide) ff_X8_42 h19 rfl ?_
      refine J_goto (pc := 20) (tgt := 27) dX8_houseNow_20 (by decide) ?_
      exact J_iret (pc := 27) dX8_houseNow_27 rfl ⟨trivial, rfl⟩
  · refine J_aload_n (pc := 4) dX8_houseNow_4 rfl rfl rfl ?_
    refine J_get (pc := 5) (k := 7) dX8_houseNow_5 kC9 (by decide) ff_X8_39 h19 rfl ?_
    refine J_goto (pc := 8) (tgt := 27) dX8_houseNow_8 (by decide) ?_
    exact J_iret (pc := 27) dX8_houseNow_27 rfl ⟨trivial, rfl⟩
