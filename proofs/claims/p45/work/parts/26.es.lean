/-! contracts of the reference: rspec4 -/
set_option maxRecDepth 100000 in
set_option maxHeartbeats 40000000 in
theorem c_X8_isSoundNow {X : jX} (hs : X.1.stackTraces = false) {d : Nat} (hd : 10 ≤ d) {n : Nat} {mv rw nx : Nat → Nat} {b : Nat} {bt : List Int32} {kn en dn rf kk th : Int32} {w : List jC} (hR : RM n mv rw nx b bt kn en dn rf kk th w) (hn1 : 2 ≤ n) (hn2 : n ≤ 7) (gm : ∀ i, mv i < 7) (gr : ∀ i, rw i < 7) (gx : ∀ i, nx i < 7) (hy0 : PM n mv) (hy1 : KB n kn bt) {kc ks : Nat} (hkc : 15 ≤ kc) (hks : 6428 ≤ ks) : jMet X mX8_isSoundNow d kc ks [.ref 19] w (pI (fun v => ∃ k : Nat, v = nI k ∧ k < 2) (fun w' => ∃ (rw' : Nat → Nat), ∃ (nx' : Nat → Nat), ∃ (b' : Nat), ∃ (bt' : List Int32), ∃ (kn' : Int32), ∃ (en' : Int32), RM n mv rw' nx' b' bt' kn' en' dn rf kk th w' ∧ FR b b' w w' ∧ (∀ i, rw' i < 7) ∧ (∀ i, nx' i < 7) ∧ KB n kn' bt')) := by
  refine jMet_of hs (by decide +kernel) (Nat.le_of_ble_eq_true rfl) (L := [some (.ref 19), none, none, none, none, none]) rfl ?_
  have hdm : 9 ≤ d - 1 := by omega
  have hdp : d - 1 + 1 ≤ d := by omega
  have hfc := fc_7 hn2
  have hfp := fc_pos n
  obtain ⟨h19, h20, h21, h22, hbb, hbl, hb3⟩ := hR
  have hF : FR b b w w := FR.rf
  refine J_aload_n (pc := 0) dX8_isSoundNow_0 rfl rfl rfl ?_
  refine J_bipush (pc := 1) (v := nI 63) dX8_isSoundNow_1 (by decide) ?_
  refine J_callV (pc := 3) (as := [.int (nI 63)]) dX8_isSoundNow_3 fw_X8_sizeOf fl_X8_178 fm_X8_sizeOf fe_X8_sizeOf h19 (by decide) rfl rfl rfl (c_X8_sizeOf hs (d := d - 1) (Nat.le_trans (by decide) hdm) (w := w) (n := n) (mv := mv) (rw := rw) (nx := nx) (b := b) (bt := bt) (kn := kn) (en := en) (dn := dn) (rf := rf) (kk := kk) (th := th) ⟨h19, h20, h21, h22, hbb, hbl, hb3⟩ hn1 hn2 gm gr gx 63 (by first | assumption | omega) (by first | assumption | omega) (by first | assumption | omega) (kc := 13) (ks := 2054) (Nat.le_refl _) (Nat.le_refl _)) hdp (by omega) (by omega) (st := []) (Nat.le_of_ble_eq_true rfl) rfl (kr_I fun v1 w1 hv1 hw1 => ?_) kx_I
  obtain ⟨rw1, nx1, b1, bt1, kn1, en1, hR1, hFc1, hgrw1, hgnx1, hp1_0, hp1_1⟩ := hw1
  obtain ⟨h19_1, h20_1, h21_1, h22_1, hbb_1, hbl_1, hb3_1⟩ := hR1
  have qd1 := hFc1.2.1
  have hF1 := hF.tr hFc1
  obtain ⟨k1, rfl, hk1⟩ := hv1
  have hkn := hp1_0
  have hBT := hp1_1
  refine J_istore_n (pc := 6) dX8_isSoundNow_6 rfl (by decide) rfl ?_
  show J X mX8_isSoundNow d (kc - 13) (ks - 2054) 7 [some (.ref 19), some (.int (nI k1)), none, none, none, none] [] w1 _
  refine J_iconst (pc := 7) (v := nI 1) dX8_isSoundNow_7 (by decide) ?_
  refine J_istore_n (pc := 8) dX8_isSoundNow_8 rfl (by decide) rfl ?_
  show J X mX8_isSoundNow d (kc - 13) (ks - 2054) 9 [some (.ref 19), some (.int (nI k1)), some (.int (nI 1)), none, none, none] [] w1 _
  refine J_iconst (pc := 9) (v := nI 0) dX8_isSoundNow_9 (by decide) ?_
  refine J_istore_n (pc := 10) dX8_isSoundNow_10 rfl (by decide) rfl ?_
  show J X mX8_isSoundNow d (kc - 13) (ks - 2054) 11 [some (.ref 19), some (.int (nI k1)), some (.int (nI 1)), some (.int (nI 0)), none, none] [] w1 _
  have lp11_2 : ∀ (fuel : Nat) (w3 : List jC) (rw_11 : Nat → Nat) (z2 : Int32) (c3 : Nat), (RM n mv rw_11 nx1 b1 bt1 kn1 en1 dn rf kk th w3) → (FR b b1 w w3) → (∀ i, rw_11 i < 7) → (c3 ≤ n) → (n - c3 < fuel) → J X mX8_isSoundNow d (kc - 13) (ks - 2054) 11 [some (.ref 19), some (.int (nI k1)), some (.int z2), some (.int (nI c3)), none, none] [] w3 (pI (fun v => ∃ k : Nat, v = nI k ∧ k < 2) (fun w' => ∃ (rw' : Nat → Nat), ∃ (nx' : Nat → Nat), ∃ (b' : Nat), ∃ (bt' : List Int32), ∃ (kn' : Int32), ∃ (en' : Int32), RM n mv rw' nx' b' bt' kn' en' dn rf kk th w' ∧ FR b b' w w' ∧ (∀ i, rw' i < 7) ∧ (∀ i, nx' i < 7) ∧ KB n kn' bt')) := by
    intro fuellp11_2
    induction fuellp11_2 with
    | zero => intros; omega
    | succ fuellp11_2 ihlp11_2 =>
      intro w3 rw_11 z2 c3 hR4 hF5 gr6 hv11_0 hf7
      obtain ⟨h19_8, h20_8, h21_8, h22_8, hb_8, hbl_8, hb3_8⟩ := hR4
      refine J_iload_n (pc := 11) dX8_isSoundNow_11 rfl rfl ?_
      refine J_aload_n (pc := 12) dX8_isSoundNow_12 rfl rfl rfl ?_
      refine J_get (pc := 13) (k := 0) dX8_isSoundNow_13 kC9 (by decide) ff_X8_7 h19_8 rfl ?_
      refine J_icmp_geN (pc := 16) (tgt := 39) dX8_isSoundNow_16 (by decide) (by omega) (by omega) (fun ht9 => ?_) (fun hf10 => ?_)
      · refine J_aload_n (pc := 39) dX8_isSoundNow_39 rfl rfl rfl ?_
        refine J_bipush (pc := 40) (v := nI 63) dX8_isSoundNow_40 (by decide) ?_
        refine J_callV0 (pc := 42) (as := [.int (nI 63)]) dX8_isSoundNow_42 fw_X8_evenNow fl_X8_194 fm_X8_evenNow fe_X8_evenNow h19_8 (by decide) rfl rfl rfl (c_X8_evenNow_atk hs (d := d - 1) (Nat.le_trans (by decide) hdm) (w := w3) (n := n) (mv := mv) (rw := rw_11) (nx := nx1) (b := b1) (bt := bt1) (kn := kn1) (en := en1) (dn := dn) (rf := rf) (kk := kk) (th := th) ⟨h19_8, h20_8, h21_8, h22_8, hb_8, hbl_8, hb3_8⟩ hn1 hn2 gm gr6 hgnx1 63 (by first | assumption | omega) (by first | assumption | omega) (by first | assumption | omega) (by first | assumption | omega) (kc := 0) (ks := 0)) hdp (st := []) (Nat.le_of_ble_eq_true rfl) rfl (kr_I fun v11 w11 hv11 hw11 => ?_) kx_I
        obtain ⟨rw11, hR11, hFc11, hgrw11⟩ := hw11
        obtain ⟨h19_11, h20_11, h21_11, h22_11, hbb_11, hbl_11, hb3_11⟩ := hR11
        have hF11 := hF5.tr hFc11
        refine J_istore_n (pc := 45) dX8_isSoundNow_45 rfl (by decide) rfl ?_
        show J X mX8_isSoundNow d (kc - 13) (ks - 2054) 46 [some (.ref 19), some (.int (nI k1)), some (.int z2), some (.int v11), none, none] [] w11 _
        refine J_aload_n (pc := 46) dX8_isSoundNow_46 rfl rfl rfl ?_
        refine J_callV0 (pc := 47) (as := []) dX8_isSoundNow_47 fw_X8_all fl_X8_65 fm_X8_all fe_X8_all h19_11 (by decide) rfl rfl rfl (c_X8_all hs (d := d - 1) (Nat.le_trans (by decide) hdm) (w := w11) (n := n) (mv := mv) (rw := rw11) (nx := nx1) (b := b1) (bt := bt1) (kn := kn1) (en := en1) (dn := dn) (rf := rf) (kk := kk) (th := th) ⟨h19_11, h20_11, h21_11, h22_11, hbb_11, hbl_11, hb3_11⟩ hn1 hn2 gm hgrw11 hgnx1  (kc := 0) (ks := 0)) hdp (st := []) (Nat.le_of_ble_eq_true rfl) rfl (kr_P fun v12 hv12 => ?_) kx_I
        subst hv12
        refine J_iload_n (pc := 50) dX8_isSoundNow_50 rfl rfl ?_
        have hm13 := Nat.mod_lt (fc n) (show 0 < k1 by omega)
        have hm14 := Nat.div_le_self (fc n) k1
        refine J_iremN (pc := 51) dX8_isSoundNow_51 (by omega) (by omega) (by omega) ?_
        refine J_if_neN (pc := 52) (tgt := 89) dX8_isSoundNow_52 (by decide) (by omega) (fun ht15 => ?_) (fun hf16 => ?_)
        · refine J_iconst (pc := 89) (v := nI 0) dX8_isSoundNow_89 (by decide) ?_
          refine J_istore (pc := 90) dX8_isSoundNow_90 (by decide) rfl ?_
          show J X mX8_isSoundNow d (kc - 13) (ks - 2054) 92 [some (.ref 19), some (.int (nI k1)), some (.int z2), some (.int v11), some (.int (nI 0)), none] [] w11 _
          refine J_iconst (pc := 92) (v := nI 0) dX8_isSoundNow_92 (by decide) ?_
          refine J_istore (pc := 93) dX8_isSoundNow_93 (by decide) rfl ?_
          show J X mX8_isSoundNow d (kc - 13) (ks - 2054) 95 [some (.ref 19), some (.int (nI k1)), some (.int z2), some (.int v11), some (.int (nI 0)), some (.int (nI 0))] [] w11 _
          have lp95_17 : ∀ (fuel : Nat) (y4 : Nat) (c5 : Nat), (y4 < 2) → (c5 ≤ 6) → (6 - c5 < fuel) → J X mX8_isSoundNow d (kc - 13) (ks - 2054) 95 [some (.ref 19), some (.int (nI k1)), some (.int z2), some (.int v11), some (.int (nI y4)), some (.int (nI c5))] [] w11 (pI (fun v => ∃ k : Nat, v = nI k ∧ k < 2) (fun w' => ∃ (rw' : Nat → Nat), ∃ (nx' : Nat → Nat), ∃ (b' : Nat), ∃ (bt' : List Int32), ∃ (kn' : Int32), ∃ (en' : Int32), RM n mv rw' nx' b' bt' kn' en' dn rf kk th w' ∧ FR b b' w w' ∧ (∀ i, rw' i < 7) ∧ (∀ i, nx' i < 7) ∧ KB n kn' bt')) := by
            intro fuellp95_17
            induction fuellp95_17 with
            | zero => intros; omega
            | succ fuellp95_17 ihlp95_17 =>
              intro y4 c5 hv95_0 hv95_1 hf18
              refine J_iload (pc := 95) dX8_isSoundNow_95 rfl ?_
              refine J_bipush (pc := 97) (v := nI 6) dX8_isSoundNow_97 (by decide) ?_
              refine J_icmp_geN (pc := 99) (tgt := 149) dX8_isSoundNow_99 (by decide) (by omega) (by omega) (fun ht19 => ?_) (fun hf20 => ?_)
              · refine J_iload (pc := 149) dX8_isSoundNow_149 rfl ?_
                refine J_if_eqN (pc := 151) (tgt := 175) dX8_isSoundNow_151 (by decide) (by omega) (fun ht21 => ?_) (fun hf22 => ?_)
                · refine J_iconst (pc := 175) (v := nI 0) dX8_isSoundNow_175 (by decide) ?_
                  exact J_zret (pc := 176) dX8_isSoundNow_176 rfl (nar_b (by first | decide | omega)) ⟨⟨0, rfl, by omega⟩, ⟨rw11, nx1, b1, bt1, kn1, en1, ⟨h19_11, h20_11, h21_11, h22_11, hbb_11, hbl_11, hb3_11⟩, hF11, hgrw11, hgnx1, (by first | assumption | exact Or.inr (by assumption))⟩⟩
                · refine J_aload_n (pc := 154) dX8_isSoundNow_154 rfl rfl rfl ?_
                  refine J_bipush (pc := 155) (v := nI 63) dX8_isSoundNow_155 (by decide) ?_
                  refine J_iconst (pc := 157) (v := nI 2) dX8_isSoundNow_157 (by decide) ?_
                  refine J_callV0 (pc := 158) (as := [.int (nI 63), .int (nI 2)]) dX8_isSoundNow_158 fw_X8_byThoseThatStay fl_X8_197 fm_X8_byThoseThatStay fe_X8_byThoseThatStay h19_11 (by decide) rfl rfl rfl (c_X8_byThoseThatStay_atk hs (d := d - 1) (Nat.le_trans (by decide) hdm) (w := w11) (n := n) (mv := mv) (rw := rw11) (nx := nx1) (b := b1) (bt := bt1) (kn := kn1) (en := en1) (dn := dn) (rf := rf) (kk := kk) (th := th) ⟨h19_11, h20_11, h21_11, h22_11, hbb_11, hbl_11, hb3_11⟩ hn1 hn2 gm hgrw11 hgnx1 63 (nI 2) (by first | assumption | omega) (by first | assumption | omega) (by first | assumption | omega) (by first | assumption | omega) (kc := 0) (ks := 0)) hdp (st := []) (Nat.le_of_ble_eq_true rfl) rfl (kr_I fun v23 w23 hv23 hw23 => ?_) kx_I
                  obtain ⟨rw23, hR23, hFc23, hgrw23⟩ := hw23
                  obtain ⟨h19_23, h20_23, h21_23, h22_23, hbb_23, hbl_23, hb3_23⟩ := hR23
                  have hF23 := hF11.tr hFc23
                  refine J_aload_n (pc := 161) dX8_isSoundNow_161 rfl rfl rfl ?_
                  refine J_bipush (pc := 162) (v := nI 63) dX8_isSoundNow_162 (by decide) ?_
                  refine J_iconst (pc := 164) (v := nI 2) dX8_isSoundNow_164 (by decide) ?_
                  refine J_callV (pc := 165) (as := [.int (nI 63), .int (nI 2)]) dX8_isSoundNow_165 fw_X8_oneByOne fl_X8_200 fm_X8_oneByOne fe_X8_oneByOne h19_23 (by decide) rfl rfl rfl (c_X8_oneByOne hs (d := d - 1) (Nat.le_trans (by decide) hdm) (w := w23) (n := n) (mv := mv) (rw := rw23) (nx := nx1) (b := b1) (bt := bt1) (kn := kn1) (en := en1) (dn := dn) (rf := rf) (kk := kk) (th := th) ⟨h19_23, h20_23, h21_23, h22_23, hbb_23, hbl_23, hb3_23⟩ hn1 hn2 gm hgrw23 hgnx1 63 2 (by first | assumption | omega) (by first | assumption | omega) (by first | assumption | omega) (by first | assumption | omega) (kc := 2) (ks := 4374) (Nat.le_refl _) (Nat.le_refl _)) hdp (by omega) (by omega) (st := [.int v23]) (Nat.le_of_ble_eq_true rfl) rfl (kr_I fun v24 w24 hv24 hw24 => ?_) kx_I
                  obtain ⟨nx24, hR24, hFc24, hgnx24⟩ := hw24
                  obtain ⟨h19_24, h20_24, h21_24, h22_24, hbb_24, hbl_24, hb3_24⟩ := hR24
                  have hF24 := hF23.tr hFc24
                  refine J_icmp_ne (pc := 168) (tgt := 175) dX8_isSoundNow_168 (by decide) (fun ht25 => ?_) (fun hf26 => ?_)
                  · refine J_iconst (pc := 175) (v := nI 0) dX8_isSoundNow_175 (by decide) ?_
                    exact J_zret (pc := 176) dX8_isSoundNow_176 rfl (nar_b (by first | decide | omega)) ⟨⟨0, rfl, by omega⟩, ⟨rw23, nx24, b1, bt1, kn1, en1, ⟨h19_24, h20_24, h21_24, h22_24, hbb_24, hbl_24, hb3_24⟩, hF24, hgrw23, hgnx24, (by first | assumption | exact Or.inr (by assumption))⟩⟩
                  · refine J_iconst (pc := 171) (v := nI 1) dX8_isSoundNow_171 (by decide) ?_
                    refine J_goto (pc := 172) (tgt := 176) dX8_isSoundNow_172 (by decide) ?_
                    exact J_zret (pc := 176) dX8_isSoundNow_176 rfl (nar_b (by first | decide | omega)) ⟨⟨1, rfl, by omega⟩, ⟨rw23, nx24, b1, bt1, kn1, en1, ⟨h19_24, h20_24, h21_24, h22_24, hbb_24, hbl_24, hb3_24⟩, hF24, hgrw23, hgnx24, (by first | assumption | exact Or.inr (by assumption))⟩⟩
              · refine J_iload (pc := 102) dX8_isSoundNow_102 rfl ?_
                refine J_if_eqN (pc := 104) (tgt := 140) dX8_isSoundNow_104 (by decide) (by omega) (fun ht27 => ?_) (fun hf28 => ?_)
                · refine J_iconst (pc := 140) (v := nI 0) dX8_isSoundNow_140 (by decide) ?_
                  refine J_istore (pc := 141) dX8_isSoundNow_141 (by decide) rfl ?_
                  show J X mX8_isSoundNow d (kc - 13) (ks - 2054) 143 [some (.ref 19), some (.int (nI k1)), some (.int z2), some (.int v11), some (.int (nI 0)), some (.int (nI c5))] [] w11 _
                  refine J_iincN (pc := 143) (b := 1) dX8_isSoundNow_143 rfl (by decide) (by decide) rfl ?_
                  show J X mX8_isSoundNow d (kc - 13) (ks - 2054) 146 [some (.ref 19), some (.int (nI k1)), some (.int z2), some (.int v11), some (.int (nI 0)), some (.int (nI (c5 + 1)))] [] w11 _
                  refine J_goto (pc := 146) (tgt := 95) dX8_isSoundNow_146 (by decide) ?_
                  exact J_sub (L' := [some (.ref 19), some (.int (nI k1)), some (.int z2), some (.int v11), some (.int (nI 0)), some (.int (nI (c5 + 1)))]) ⟨rfl, ⟨rfl, ⟨rfl, ⟨rfl, ⟨rfl, ⟨rfl, trivial⟩⟩⟩⟩⟩⟩ (ihlp95_17 0 (c5 + 1) (by first | assumption | omega) (by first | assumption | omega) (by omega))
                · refine J_aload_n (pc := 107) dX8_isSoundNow_107 rfl rfl rfl ?_
                  refine J_bipush (pc := 108) (v := nI 63) dX8_isSoundNow_108 (by decide) ?_
                  refine J_iload (pc := 110) dX8_isSoundNow_110 rfl ?_
                  refine J_callV0 (pc := 112) (as := [.int (nI 63), .int (nI c5)]) dX8_isSoundNow_112 fw_X8_isInNow fl_X8_185 fm_X8_isInNow fe_X8_isInNow h19_11 (by decide) rfl rfl rfl (c_X8_isInNow_atk hs (d := d - 1) (Nat.le_trans (by decide) hdm) (w := w11) (n := n) (mv := mv) (rw := rw11) (nx := nx1) (b := b1) (bt := bt1) (kn := kn1) (en := en1) (dn := dn) (rf := rf) (kk := kk) (th := th) ⟨h19_11, h20_11, h21_11, h22_11, hbb_11, hbl_11, hb3_11⟩ hn1 hn2 gm hgrw11 hgnx1 63 c5 (by first | assumption | omega) (by first | assumption | omega) (by first | assumption | omega) (by first | assumption | omega) (by first | assumption | omega) (kc := 0) (ks := 0)) hdp (st := []) (Nat.le_of_ble_eq_true rfl) rfl (kr_I fun v29 w29 hv29 hw29 => ?_) kx_I
                  obtain ⟨hR29, hFc29⟩ := hw29
                  obtain ⟨h19_29, h20_29, h21_29, h22_29, hbb_29, hbl_29, hb3_29⟩ := hR29
                  have hF29 := hF11.tr hFc29
                  obtain ⟨k29, rfl, hk29⟩ := hv29
                  refine J_if_eqN (pc := 115) (tgt := 140) dX8_isSoundNow_115 (by decide) (by omega) (fun ht30 => ?_) (fun hf31 => ?_)
                  · refine J_iconst (pc := 140) (v := nI 0) dX8_isSoundNow_140 (by decide) ?_
                    refine J_istore (pc := 141) dX8_isSoundNow_141 (by decide) rfl ?_
                    show J X mX8_isSoundNow d (kc - 13) (ks - 2054) 143 [some (.ref 19), some (.int (nI k1)), some (.int z2), some (.int v11), some (.int (nI 0)), some (.int (nI c5))] [] w29 _
                    refine J_iincN (pc := 143) (b := 1) dX8_isSoundNow_143 rfl (by decide) (by decide) rfl ?_
                    show J X mX8_isSoundNow d (kc - 13) (ks - 2054) 146 [some (.ref 19), some (.int (nI k1)), some (.int z2), some (.int v11), some (.int (nI 0)), some (.int (nI (c5 + 1)))] [] w29 _
                    refine J_goto (pc := 146) (tgt := 95) dX8_isSoundNow_146 (by decide) ?_
                    exact J_sub (L' := [some (.ref 19), some (.int (nI k1)), some (.int z2), some (.int v11), some (.int (nI 0)), some (.int (nI (c5 + 1)))]) ⟨rfl, ⟨rfl, ⟨rfl, ⟨rfl, ⟨rfl, ⟨rfl, trivial⟩⟩⟩⟩⟩⟩ (ihlp95_17 0 (c5 + 1) (by first | assumption | omega) (by first | assumption | omega) (by omega))
                  · refine J_iload_n (pc := 118) dX8_isSoundNow_118 rfl rfl ?_
                    refine J_aload_n (pc := 119) dX8_isSoundNow_119 rfl rfl rfl ?_
                    refine J_aload_n (pc := 120) dX8_isSoundNow_120 rfl rfl rfl ?_
                    refine J_get (pc := 121) (k := 1) dX8_isSoundNow_121 kC9 (by decide) ff_X8_13 h19_29 rfl ?_
                    refine J_iload (pc := 124) dX8_isSoundNow_124 rfl ?_
                    refine J_bipush (pc := 126) (v := nI 7) dX8_isSoundNow_126 (by decide) ?_
                    refine J_imulN (pc := 128) dX8_isSoundNow_128 ?_
                    refine J_callV0 (pc := 129) (as := [.ref 20, .int (nI (c5 * 7))]) dX8_isSoundNow_129 fw_X8_orderOf fl_X8_172 fm_X8_orderOf fe_X8_orderOf h19_29 (by decide) rfl rfl rfl (c_X8_orderOf_at20 hs (d := d - 1) (Nat.le_trans (by decide) hdm) (w := w29) (n := n) (mv := mv) (rw := rw11) (nx := nx1) (b := b1) (bt := bt1) (kn := kn1) (en := en1) (dn := dn) (rf := rf) (kk := kk) (th := th) ⟨h19_29, h20_29, h21_29, h22_29, hbb_29, hbl_29, hb3_29⟩ hn1 hn2 gm hgrw11 hgnx1 (c5 * 7) (by first | assumption | omega) (by exact hy0 c5 (by omega)) (kc := 0) (ks := 0)) hdp (st := [.int (nI k1)]) (Nat.le_of_ble_eq_true rfl) rfl (kr_P fun v32 hv32 => ?_) kx_I
                    obtain ⟨k32, rfl, hk32⟩ := hv32
                    have hm33 := Nat.mod_lt k1 (show 0 < k32 by omega)
                    have hm34 := Nat.div_le_self k1 k32
                    refine J_iremN (pc := 132) dX8_isSoundNow_132 (by omega) (by omega) (by omega) ?_
                    refine J_if_neN (pc := 133) (tgt := 140) dX8_isSoundNow_133 (by decide) (by omega) (fun ht35 => ?_) (fun hf36 => ?_)
                    · refine J_iconst (pc := 140) (v := nI 0) dX8_isSoundNow_140 (by decide) ?_
                      refine J_istore (pc := 141) dX8_isSoundNow_141 (by decide) rfl ?_
                      show J X mX8_isSoundNow d (kc - 13) (ks - 2054) 143 [some (.ref 19), some (.int (nI k1)), some (.int z2), some (.int v11), some (.int (nI 0)), some (.int (nI c5))] [] w29 _
                      refine J_iincN (pc := 143) (b := 1) dX8_isSoundNow_143 rfl (by decide) (by decide) rfl ?_
                      show J X mX8_isSoundNow d (kc - 13) (ks - 2054) 146 [some (.ref 19), some (.int (nI k1)), some (.int z2), some (.int v11), some (.int (nI 0)), some (.int (nI (c5 + 1)))] [] w29 _
                      refine J_goto (pc := 146) (tgt := 95) dX8_isSoundNow_146 (by decide) ?_
                      exact J_sub (L' := [some (.ref 19), some (.int (nI k1)), some (.int z2), some (.int v11), some (.int (nI 0)), some (.int (nI (c5 + 1)))]) ⟨rfl, ⟨rfl, ⟨rfl, ⟨rfl, ⟨rfl, ⟨rfl, trivial⟩⟩⟩⟩⟩⟩ (ihlp95_17 0 (c5 + 1) (by first | assumption | omega) (by first | assumption | omega) (by omega))
                    · refine J_iconst (pc := 136) (v := nI 1) dX8_isSoundNow_136 (by decide) ?_
                      refine J_goto (pc := 137) (tgt := 141) dX8_isSoundNow_137 (by decide) ?_
                      refine J_istore (pc := 141) dX8_isSoundNow_141 (by decide) rfl ?_
                      show J X mX8_isSoundNow d (kc - 13) (ks - 2054) 143 [some (.ref 19), some (.int (nI k1)), some (.int z2), some (.int v11), some (.int (nI 1)), some (.int (nI c5))] [] w29 _
                      refine J_iincN (pc := 143) (b := 1) dX8_isSoundNow_143 rfl (by decide) (by decide) rfl ?_
                      show J X mX8_isSoundNow d (kc - 13) (ks - 2054) 146 [some (.ref 19), some (.int (nI k1)), some (.int z2), some (.int v11), some (.int (nI 1)), some (.int (nI (c5 + 1)))] [] w29 _
                      refine J_goto (pc := 146) (tgt := 95) dX8_isSoundNow_146 (by decide) ?_
                      exact J_sub (L' := [some (.ref 19), some (.int (nI k1)), some (.int z2), some (.int v11), some (.int (nI 1)), some (.int (nI (c5 + 1)))]) ⟨rfl, ⟨rfl, ⟨rfl, ⟨rfl, ⟨rfl, ⟨rfl, trivial⟩⟩⟩⟩⟩⟩ (ihlp95_17 1 (c5 + 1) (by first | assumption | omega) (by first | assumption | omega) (by omega))
          exact J_sub (L' := [some (.ref 19), some (.int (nI k1)), some (.int z2), some (.int v11), some (.int (nI 0)), some (.int (nI 0))]) ⟨rfl, ⟨rfl, ⟨rfl, ⟨rfl, ⟨rfl, ⟨rfl, trivial⟩⟩⟩⟩⟩⟩ (lp95_17 _ 0 0 (by first | assumption | omega) (by first | assumption | omega) (Nat.lt_succ_self _))
        · refine J_iload_n (pc := 55) dX8_isSoundNow_55 rfl rfl ?_
          refine J_iload_n (pc := 56) dX8_isSoundNow_56 rfl rfl ?_
          refine J_icmp_ne (pc := 57) (tgt := 89) dX8_isSoundNow_57 (by decide) (fun ht37 => ?_) (fun hf38 => ?_)
          · refine J_iconst (pc := 89) (v := nI 0) dX8_isSoundNow_89 (by decide) ?_
            refine J_istore (pc := 90) dX8_isSoundNow_90 (by decide) rfl ?_
            show J X mX8_isSoundNow d (kc - 13) (ks - 2054) 92 [some (.ref 19), some (.int (nI k1)), some (.int z2), some (.int v11), some (.int (nI 0)), none] [] w11 _
            refine J_iconst (pc := 92) (v := nI 0) dX8_isSoundNow_92 (by decide) ?_
            refine J_istore (pc := 93) dX8_isSoundNow_93 (by decide) rfl ?_
            show J X mX8_isSoundNow d (kc - 13) (ks - 2054) 95 [some (.ref 19), some (.int (nI k1)), some (.int z2), some (.int v11), some (.int (nI 0)), some (.int (nI 0))] [] w11 _
            have lp95_39 : ∀ (fuel : Nat) (y4 : Nat) (c5 : Nat), (y4 < 2) → (c5 ≤ 6) → (6 - c5 < fuel) → J X mX8_isSoundNow d (kc - 13) (ks - 2054) 95 [some (.ref 19), some (.int (nI k1)), some (.int z2), some (.int v11), some (.int (nI y4)), some (.int (nI c5))] [] w11 (pI (fun v => ∃ k : Nat, v = nI k ∧ k < 2) (fun w' => ∃ (rw' : Nat → Nat), ∃ (nx' : Nat → Nat), ∃ (b' : Nat), ∃ (bt' : List Int32), ∃ (kn' : Int32), ∃ (en' : Int32), RM n mv rw' nx' b' bt' kn' en' dn rf kk th w' ∧ FR b b' w w' ∧ (∀ i, rw' i < 7) ∧ (∀ i, nx' i < 7) ∧ KB n kn' bt')) := by
              intro fuellp95_39
              induction fuellp95_39 with
              | zero => intros; omega
              | succ fuellp95_39 ihlp95_39 =>
                intro y4 c5 hv95_0 hv95_1 hf40
                refine J_iload (pc := 95) dX8_isSoundNow_95 rfl ?_
                refine J_bipush (pc := 97) (v := nI 6) dX8_isSoundNow_97 (by decide) ?_
                refine J_icmp_geN (pc := 99) (tgt := 149) dX8_isSoundNow_99 (by decide) (by omega) (by omega) (fun ht41 => ?_) (fun hf42 => ?_)
                · refine J_iload (pc := 149) dX8_isSoundNow_149 rfl ?_
                  refine J_if_eqN (pc := 151) (tgt := 175) dX8_isSoundNow_151 (by decide) (by omega) (fun ht43 => ?_) (fun hf44 => ?_)
                  · refine J_iconst (pc := 175) (v := nI 0) dX8_isSoundNow_175 (by decide) ?_
                    exact J_zret (pc := 176) dX8_isSoundNow_176 rfl (nar_b (by first | decide | omega)) ⟨⟨0, rfl, by omega⟩, ⟨rw11, nx1, b1, bt1, kn1, en1, ⟨h19_11, h20_11, h21_11, h22_11, hbb_11, hbl_11, hb3_11⟩, hF11, hgrw11, hgnx1, (by first | assumption | exact Or.inr (by assumption))⟩⟩
                  · refine J_aload_n (pc := 154) dX8_isSoundNow_154 rfl rfl rfl ?_
                    refine J_bipush (pc := 155) (v := nI 63) dX8_isSoundNow_155 (by decide) ?_
                    refine J_iconst (pc := 157) (v := nI 2) dX8_isSoundNow_157 (by decide) ?_
                    refine J_callV0 (pc := 158) (as := [.int (nI 63), .int (nI 2)]) dX8_isSoundNow_158 fw_X8_byThoseThatStay fl_X8_197 fm_X8_byThoseThatStay fe_X8_byThoseThatStay h19_11 (by decide) rfl rfl rfl (c_X8_byThoseThatStay_atk hs (d := d - 1) (Nat.le_trans (by decide) hdm) (w := w11) (n := n) (mv := mv) (rw := rw11) (nx := nx1) (b := b1) (bt := bt1) (kn := kn1) (en := en1) (dn := dn) (rf := rf) (kk := kk) (th := th) ⟨h19_11, h20_11, h21_11, h22_11, hbb_11, hbl_11, hb3_11⟩ hn1 hn2 gm hgrw11 hgnx1 63 (nI 2) (by first | assumption | omega) (by first | assumption | omega) (by first | assumption | omega) (by first | assumption | omega) (kc := 0) (ks := 0)) hdp (st := []) (Nat.le_of_ble_eq_true rfl) rfl (kr_I fun v45 w45 hv45 hw45 => ?_) kx_I
                    obtain ⟨rw45, hR45, hFc45, hgrw45⟩ := hw45
                    obtain ⟨h19_45, h20_45, h21_45, h22_45, hbb_45, hbl_45, hb3_45⟩ := hR45
                    have hF45 := hF11.tr hFc45
                    refine J_aload_n (pc := 161) dX8_isSoundNow_161 rfl rfl rfl ?_
                    refine J_bipush (pc := 162) (v := nI 63) dX8_isSoundNow_162 (by decide) ?_
                    refine J_iconst (pc := 164) (v := nI 2) dX8_isSoundNow_164 (by decide) ?_
                    refine J_callV (pc := 165) (as := [.int (nI 63), .int (nI 2)]) dX8_isSoundNow_165 fw_X8_oneByOne fl_X8_200 fm_X8_oneByOne fe_X8_oneByOne h19_45 (by decide) rfl rfl rfl (c_X8_oneByOne hs (d := d - 1) (Nat.le_trans (by decide) hdm) (w := w45) (n := n) (mv := mv) (rw := rw45) (nx := nx1) (b := b1) (bt := bt1) (kn := kn1) (en := en1) (dn := dn) (rf := rf) (kk := kk) (th := th) ⟨h19_45, h20_45, h21_45, h22_45, hbb_45, hbl_45, hb3_45⟩ hn1 hn2 gm hgrw45 hgnx1 63 2 (by first | assumption | omega) (by first | assumption | omega) (by first | assumption | omega) (by first | assumption | omega) (kc := 2) (ks := 4374) (Nat.le_refl _) (Nat.le_refl _)) hdp (by omega) (by omega) (st := [.int v45]) (Nat.le_of_ble_eq_true rfl) rfl (kr_I fun v46 w46 hv46 hw46 => ?_) kx_I
                    obtain ⟨nx46, hR46, hFc46, hgnx46⟩ := hw46
                    obtain ⟨h19_46, h20_46, h21_46, h22_46, hbb_46, hbl_46, hb3_46⟩ := hR46
                    have hF46 := hF45.tr hFc46
                    refine J_icmp_ne (pc := 168) (tgt := 175) dX8_isSoundNow_168 (by decide) (fun ht47 => ?_) (fun hf48 => ?_)
                    · refine J_iconst (pc := 175) (v := nI 0) dX8_isSoundNow_175 (by decide) ?_
                      exact J_zret (pc := 176) dX8_isSoundNow_176 rfl (nar_b (by first | decide | omega)) ⟨⟨0, rfl, by omega⟩, ⟨rw45, nx46, b1, bt1, kn1, en1, ⟨h19_46, h20_46, h21_46, h22_46, hbb_46, hbl_46, hb3_46⟩, hF46, hgrw45, hgnx46, (by first | assumption | exact Or.inr (by assumption))⟩⟩
                    · refine J_iconst (pc := 171) (v := nI 1) dX8_isSoundNow_171 (by decide) ?_
                      refine J_goto (pc := 172) (tgt := 176) dX8_isSoundNow_172 (by decide) ?_
                      exact J_zret (pc := 176) dX8_isSoundNow_176 rfl (nar_b (by first | decide | omega)) ⟨⟨1, rfl, by omega⟩, ⟨rw45, nx46, b1, bt1, kn1, en1, ⟨h19_46, h20_46, h21_46, h22_46, hbb_46, hbl_46, hb3_46⟩, hF46, hgrw45, hgnx46, (by first | assumption | exact Or.inr (by assumption))⟩⟩
                · refine J_iload (pc := 102) dX8_isSoundNow_102 rfl ?_
                  refine J_if_eqN (pc := 104) (tgt := 140) dX8_isSoundNow_104 (by decide) (by omega) (fun ht49 => ?_) (fun hf50 => ?_)
                  · refine J_iconst (pc := 140) (v := nI 0) dX8_isSoundNow_140 (by decide) ?_
                    refine J_istore (pc := 141) dX8_isSoundNow_141 (by decide) rfl ?_
                    show J X mX8_isSoundNow d (kc - 13) (ks - 2054) 143 [some (.ref 19), some (.int (nI k1)), some (.int z2), some (.int v11), some (.int (nI 0)), some (.int (nI c5))] [] w11 _
                    refine J_iincN (pc := 143) (b := 1) dX8_isSoundNow_143 rfl (by decide) (by decide) rfl ?_
                    show J X mX8_isSoundNow d (kc - 13) (ks - 2054) 146 [some (.ref 19), some (.int (nI k1)), some (.int z2), some (.int v11), some (.int (nI 0)), some (.int (nI (c5 + 1)))] [] w11 _
                    refine J_goto (pc := 146) (tgt := 95) dX8_isSoundNow_146 (by decide) ?_
                    exact J_sub (L' := [some (.ref 19), some (.int (nI k1)), some (.int z2), some (.int v11), some (.int (nI 0)), some (.int (nI (c5 + 1)))]) ⟨rfl, ⟨rfl, ⟨rfl, ⟨rfl, ⟨rfl, ⟨rfl, trivial⟩⟩⟩⟩⟩⟩ (ihlp95_39 0 (c5 + 1) (by first | assumption | omega) (by first | assumption | omega) (by omega))
                  · refine J_aload_n (pc := 107) dX8_isSoundNow_107 rfl rfl rfl ?_
                    refine J_bipush (pc := 108) (v := nI 63) dX8_isSoundNow_108 (by decide) ?_
                    refine J_iload (pc := 110) dX8_isSoundNow_110 rfl ?_
                    refine J_callV0 (pc := 112) (as := [.int (nI 63), .int (nI c5)]) dX8_isSoundNow_112 fw_X8_isInNow fl_X8_185 fm_X8_isInNow fe_X8_isInNow h19_11 (by decide) rfl rfl rfl (c_X8_isInNow_atk hs (d := d - 1) (Nat.le_trans (by decide) hdm) (w := w11) (n := n) (mv := mv) (rw := rw11) (nx := nx1) (b := b1) (bt := bt1) (kn := kn1) (en := en1) (dn := dn) (rf := rf) (kk := kk) (th := th) ⟨h19_11, h20_11, h21_11, h22_11, hbb_11, hbl_11, hb3_11⟩ hn1 hn2 gm hgrw11 hgnx1 63 c5 (by first | assumption | omega) (by first | assumption | omega) (by first | assumption | omega) (by first | assumption | omega) (by first | assumption | omega) (kc := 0) (ks := 0)) hdp (st := []) (Nat.le_of_ble_eq_true rfl) rfl (kr_I fun v51 w51 hv51 hw51 => ?_) kx_I
                    obtain ⟨hR51, hFc51⟩ := hw51
                    obtain ⟨h19_51, h20_51, h21_51, h22_51, hbb_51, hbl_51, hb3_51⟩ := hR51
                    have hF51 := hF11.tr hFc51
                    obtain ⟨k51, rfl, hk51⟩ := hv51
                    refine J_if_eqN (pc := 115) (tgt := 140) dX8_isSoundNow_115 (by decide) (by omega) (fun ht52 => ?_) (fun hf53 => ?_)
                    · refine J_iconst (pc := 140) (v := nI 0) dX8_isSoundNow_140 (by decide) ?_
                      refine J_istore (pc := 141) dX8_isSoundNow_141 (by decide) rfl ?_
                      show J X mX8_isSoundNow d (kc - 13) (ks - 2054) 143 [some (.ref 19), some (.int (nI k1)), some (.int z2), some (.int v11), some (.int (nI 0)), some (.int (nI c5))] [] w51 _
                      refine J_iincN (pc := 143) (b := 1) dX8_isSoundNow_143 rfl (by decide) (by decide) rfl ?_
                      show J X mX8_isSoundNow d (kc - 13) (ks - 2054) 146 [some (.ref 19), some (.int (nI k1)), some (.int z2), some (.int v11), some (.int (nI 0)), some (.int (nI (c5 + 1)))] [] w51 _
                      refine J_goto (pc := 146) (tgt := 95) dX8_isSoundNow_146 (by decide) ?_
                      exact J_sub (L' := [some (.ref 19), some (.int (nI k1)), some (.int z2), some (.int v11), some (.int (nI 0)), some (.int (nI (c5 + 1)))]) ⟨rfl, ⟨rfl, ⟨rfl, ⟨rfl, ⟨rfl, ⟨rfl, trivial⟩⟩⟩⟩⟩⟩ (ihlp95_39 0 (c5 + 1) (by first | assumption | omega) (by first | assumption | omega) (by omega))
                    · refine J_iload_n (pc := 118) dX8_isSoundNow_118 rfl rfl ?_
                      refine J_aload_n (pc := 119) dX8_isSoundNow_119 rfl rfl rfl ?_
                      refine J_aload_n (pc := 120) dX8_isSoundNow_120 rfl rfl rfl ?_
                      refine J_get (pc := 121) (k := 1) dX8_isSoundNow_121 kC9 (by decide) ff_X8_13 h19_51 rfl ?_
                      refine J_iload (pc := 124) dX8_isSoundNow_124 rfl ?_
                      refine J_bipush (pc := 126) (v := nI 7) dX8_isSoundNow_126 (by decide) ?_
                      refine J_imulN (pc := 128) dX8_isSoundNow_128 ?_
                      refine J_callV0 (pc := 129) (as := [.ref 20, .int (nI (c5 * 7))]) dX8_isSoundNow_129 fw_X8_orderOf fl_X8_172 fm_X8_orderOf fe_X8_orderOf h19_51 (by decide) rfl rfl rfl (c_X8_orderOf_at20 hs (d := d - 1) (Nat.le_trans (by decide) hdm) (w := w51) (n := n) (mv := mv) (rw := rw11) (nx := nx1) (b := b1) (bt := bt1) (kn := kn1) (en := en1) (dn := dn) (rf := rf) (kk := kk) (th := th) ⟨h19_51, h20_51, h21_51, h22_51, hbb_51, hbl_51, hb3_51⟩ hn1 hn2 gm hgrw11 hgnx1 (c5 * 7) (by first | assumption | omega) (by exact hy0 c5 (by omega)) (kc := 0) (ks := 0)) hdp (st := [.int (nI k1)]) (Nat.le_of_ble_eq_true rfl) rfl (kr_P fun v54 hv54 => ?_) kx_I
                      obtain ⟨k54, rfl, hk54⟩ := hv54
                      have hm55 := Nat.mod_lt k1 (show 0 < k54 by omega)
                      have hm56 := Nat.div_le_self k1 k54
                      refine J_iremN (pc := 132) dX8_isSoundNow_132 (by omega) (by omega) (by omega) ?_
                      refine J_if_neN (pc := 133) (tgt := 140) dX8_isSoundNow_133 (by decide) (by omega) (fun ht57 => ?_) (fun hf58 => ?_)
                      · refine J_iconst (pc := 140) (v := nI 0) dX8_isSoundNow_140 (by decide) ?_
                        refine J_istore (pc := 141) dX8_isSoundNow_141 (by decide) rfl ?_
                        show J X mX8_isSoundNow d (kc - 13) (ks - 2054) 143 [some (.ref 19), some (.int (nI k1)), some (.int z2), some (.int v11), some (.int (nI 0)), some (.int (nI c5))] [] w51 _
                        refine J_iincN (pc := 143) (b := 1) dX8_isSoundNow_143 rfl (by decide) (by decide) rfl ?_
                        show J X mX8_isSoundNow d (kc - 13) (ks - 2054) 146 [some (.ref 19), some (.int (nI k1)), some (.int z2), some (.int v11), some (.int (nI 0)), some (.int (nI (c5 + 1)))] [] w51 _
                        refine J_goto (pc := 146) (tgt := 95) dX8_isSoundNow_146 (by decide) ?_
                        exact J_sub (L' := [some (.ref 19), some (.int (nI k1)), some (.int z2), some (.int v11), some (.int (nI 0)), some (.int (nI (c5 + 1)))]) ⟨rfl, ⟨rfl, ⟨rfl, ⟨rfl, ⟨rfl, ⟨rfl, trivial⟩⟩⟩⟩⟩⟩ (ihlp95_39 0 (c5 + 1) (by first | assumption | omega) (by first | assumption | omega) (by omega))
                      · refine J_iconst (pc := 136) (v := nI 1) dX8_isSoundNow_136 (by decide) ?_
                        refine J_goto (pc := 137) (tgt := 141) dX8_isSoundNow_137 (by decide) ?_
                        refine J_istore (pc := 141) dX8_isSoundNow_141 (by decide) rfl ?_
                        show J X mX8_isSoundNow d (kc - 13) (ks - 2054) 143 [some (.ref 19), some (.int (nI k1)), some (.int z2), some (.int v11), some (.int (nI 1)), some (.int (nI c5))] [] w51 _
                        refine J_iincN (pc := 143) (b := 1) dX8_isSoundNow_143 rfl (by decide) (by decide) rfl ?_
                        show J X mX8_isSoundNow d (kc - 13) (ks - 2054) 146 [some (.ref 19), some (.int (nI k1)), some (.int z2), some (.int v11), some (.int (nI 1)), some (.int (nI (c5 + 1)))] [] w51 _
                        refine J_goto (pc := 146) (tgt := 95) dX8_isSoundNow_146 (by decide) ?_
                        exact J_sub (L' := [some (.ref 19), some (.int (nI k1)), some (.int z2), some (.int v11), some (.int (nI 1)), some (.int (nI (c5 + 1)))]) ⟨rfl, ⟨rfl, ⟨rfl, ⟨rfl, ⟨rfl, ⟨rfl, trivial⟩⟩⟩⟩⟩⟩ (ihlp95_39 1 (c5 + 1) (by first | assumption | omega) (by first | assumption | omega) (by omega))
            exact J_sub (L' := [some (.ref 19), some (.int (nI k1)), some (.int z2), some (.int v11), some (.int (nI 0)), some (.int (nI 0))]) ⟨rfl, ⟨rfl, ⟨rfl, ⟨rfl, ⟨rfl, ⟨rfl, trivial⟩⟩⟩⟩⟩⟩ (lp95_39 _ 0 0 (by first | assumption | omega) (by first | assumption | omega) (Nat.lt_succ_self _))
          · refine J_iload_n (pc := 60) dX8_isSoundNow_60 rfl rfl ?_
            refine J_iload_n (pc := 61) dX8_isSoundNow_61 rfl rfl ?_
            refine J_icmp_eq (pc := 62) (tgt := 72) dX8_isSoundNow_62 (by decide) (fun ht59 => ?_) (fun hf60 => ?_)
            · refine J_iload_n (pc := 72) dX8_isSoundNow_72 rfl rfl ?_
              refine J_iconst (pc := 73) (v := nI 1) dX8_isSoundNow_73 (by decide) ?_
              refine J_aload_n (pc := 74) dX8_isSoundNow_74 rfl rfl rfl ?_
              refine J_get (pc := 75) (k := 6) dX8_isSoundNow_75 kC9 (by decide) ff_X8_85 h19_11 rfl ?_
              refine J_callS0 (pc := 78) (as := [.int en1]) dX8_isSoundNow_78 fw_J6_bitCount_0f7a4 fl_X8_96 fs_J6_bitCount_0f7a4 rfl (c_J6_bitCount_0f7a4 hs (d := d - 1) (Nat.le_trans (by decide) hdm) (w := w11) en1 (kc := 0) (ks := 0)) hdp (st := [.int (nI 1), .int (nI k1)]) (Nat.le_of_ble_eq_true rfl) rfl (kr_P fun v61 hv61 => ?_) kx_I
              obtain ⟨k61, rfl, hk61⟩ := hv61
              refine J_ishl (pc := 81) dX8_isSoundNow_81 (J_absI fun x62 => ?_)
              refine J_icmp_ltI (pc := 82) (tgt := 89) dX8_isSoundNow_82 (by decide) (by omega) (fun ht63 => ?_) (fun hf64 => ?_)
              · refine J_iconst (pc := 89) (v := nI 0) dX8_isSoundNow_89 (by decide) ?_
                refine J_istore (pc := 90) dX8_isSoundNow_90 (by decide) rfl ?_
                show J X mX8_isSoundNow d (kc - 13) (ks - 2054) 92 [some (.ref 19), some (.int (nI k1)), some (.int z2), some (.int v11), some (.int (nI 0)), none] [] w11 _
                refine J_iconst (pc := 92) (v := nI 0) dX8_isSoundNow_92 (by decide) ?_
                refine J_istore (pc := 93) dX8_isSoundNow_93 (by decide) rfl ?_
                show J X mX8_isSoundNow d (kc - 13) (ks - 2054) 95 [some (.ref 19), some (.int (nI k1)), some (.int z2), some (.int v11), some (.int (nI 0)), some (.int (nI 0))] [] w11 _
                have lp95_65 : ∀ (fuel : Nat) (y4 : Nat) (c5 : Nat), (y4 < 2) → (c5 ≤ 6) → (6 - c5 < fuel) → J X mX8_isSoundNow d (kc - 13) (ks - 2054) 95 [some (.ref 19), some (.int (nI k1)), some (.int z2), some (.int v11), some (.int (nI y4)), some (.int (nI c5))] [] w11 (pI (fun v => ∃ k : Nat, v = nI k ∧ k < 2) (fun w' => ∃ (rw' : Nat → Nat), ∃ (nx' : Nat → Nat), ∃ (b' : Nat), ∃ (bt' : List Int32), ∃ (kn' : Int32), ∃ (en' : Int32), RM n mv rw' nx' b' bt' kn' en' dn rf kk th w' ∧ FR b b' w w' ∧ (∀ i, rw' i < 7) ∧ (∀ i, nx' i < 7) ∧ KB n kn' bt')) := by
                  intro fuellp95_65
                  induction fuellp95_65 with
                  | zero => intros; omega
                  | succ fuellp95_65 ihlp95_65 =>
                    intro y4 c5 hv95_0 hv95_1 hf66
                    refine J_iload (pc := 95) dX8_isSoundNow_95 rfl ?_
                    refine J_bipush (pc := 97) (v := nI 6) dX8_isSoundNow_97 (by decide) ?_
                    refine J_icmp_geN (pc := 99) (tgt := 149) dX8_isSoundNow_99 (by decide) (by omega) (by omega) (fun ht67 => ?_) (fun hf68 => ?_)
                    · refine J_iload (pc := 149) dX8_isSoundNow_149 rfl ?_
                      refine J_if_eqN (pc := 151) (tgt := 175) dX8_isSoundNow_151 (by decide) (by omega) (fun ht69 => ?_) (fun hf70 => ?_)
                      · refine J_iconst (pc := 175) (v := nI 0) dX8_isSoundNow_175 (by decide) ?_
                        exact J_zret (pc := 176) dX8_isSoundNow_176 rfl (nar_b (by first | decide | omega)) ⟨⟨0, rfl, by omega⟩, ⟨rw11, nx1, b1, bt1, kn1, en1, ⟨h19_11, h20_11, h21_11, h22_11, hbb_11, hbl_11, hb3_11⟩, hF11, hgrw11, hgnx1, (by first | assumption | exact Or.inr (by assumption))⟩⟩
                      · refine J_aload_n (pc := 154) dX8_isSoundNow_154 rfl rfl rfl ?_
                        refine J_bipush (pc := 155) (v := nI 63) dX8_isSoundNow_155 (by decide) ?_
                        refine J_iconst (pc := 157) (v := nI 2) dX8_isSoundNow_157 (by decide) ?_
                        refine J_callV0 (pc := 158) (as := [.int (nI 63), .int (nI 2)]) dX8_isSoundNow_158 fw_X8_byThoseThatStay fl_X8_197 fm_X8_byThoseThatStay fe_X8_byThoseThatStay h19_11 (by decide) rfl rfl rfl (c_X8_byThoseThatStay_atk hs (d := d - 1) (Nat.le_trans (by decide) hdm) (w := w11) (n := n) (mv := mv) (rw := rw11) (nx := nx1) (b := b1) (bt := bt1) (kn := kn1) (en := en1) (dn := dn) (rf := rf) (kk := kk) (th := th) ⟨h19_11, h20_11, h21_11, h22_11, hbb_11, hbl_11, hb3_11⟩ hn1 hn2 gm hgrw11 hgnx1 63 (nI 2) (by first | assumption | omega) (by first | assumption | omega) (by first | assumption | omega) (by first | assumption | omega) (kc := 0) (ks := 0)) hdp (st := []) (Nat.le_of_ble_eq_true rfl) rfl (kr_I fun v71 w71 hv71 hw71 => ?_) kx_I
                        obtain ⟨rw71, hR71, hFc71, hgrw71⟩ := hw71
                        obtain ⟨h19_71, h20_71, h21_71, h22_71, hbb_71, hbl_71, hb3_71⟩ := hR71
                        have hF71 := hF11.tr hFc71
                        refine J_aload_n (pc := 161) dX8_isSoundNow_161 rfl rfl rfl ?_
                        refine J_bipush (pc := 162) (v := nI 63) dX8_isSoundNow_162 (by decide) ?_
                        refine J_iconst (pc := 164) (v := nI 2) dX8_isSoundNow_164 (by decide) ?_
                        refine J_callV (pc := 165) (as := [.int (nI 63), .int (nI 2)]) dX8_isSoundNow_165 fw_X8_oneByOne fl_X8_200 fm_X8_oneByOne fe_X8_oneByOne h19_71 (by decide) rfl rfl rfl (c_X8_oneByOne hs (d := d - 1) (Nat.le_trans (by decide) hdm) (w := w71) (n := n) (mv := mv) (rw := rw71) (nx := nx1) (b := b1) (bt := bt1) (kn := kn1) (en := en1) (dn := dn) (rf := rf) (kk := kk) (th := th) ⟨h19_71, h20_71, h21_71, h22_71, hbb_71, hbl_71, hb3_71⟩ hn1 hn2 gm hgrw71 hgnx1 63 2 (by first | assumption | omega) (by first | assumption | omega) (by first | assumption | omega) (by first | assumption | omega) (kc := 2) (ks := 4374) (Nat.le_refl _) (Nat.le_refl _)) hdp (by omega) (by omega) (st := [.int v71]) (Nat.le_of_ble_eq_true rfl) rfl (kr_I fun v72 w72 hv72 hw72 => ?_) kx_I
                        obtain ⟨nx72, hR72, hFc72, hgnx72⟩ := hw72
                        obtain ⟨h19_72, h20_72, h21_72, h22_72, hbb_72, hbl_72, hb3_72⟩ := hR72
                        have hF72 := hF71.tr hFc72
                        refine J_icmp_ne (pc := 168) (tgt := 175) dX8_isSoundNow_168 (by decide) (fun ht73 => ?_) (fun hf74 => ?_)
                        · refine J_iconst (pc := 175) (v := nI 0) dX8_isSoundNow_175 (by decide) ?_
                          exact J_zret (pc := 176) dX8_isSoundNow_176 rfl (nar_b (by first | decide | omega)) ⟨⟨0, rfl, by omega⟩, ⟨rw71, nx72, b1, bt1, kn1, en1, ⟨h19_72, h20_72, h21_72, h22_72, hbb_72, hbl_72, hb3_72⟩, hF72, hgrw71, hgnx72, (by first | assumption | exact Or.inr (by assumption))⟩⟩
                        · refine J_iconst (pc := 171) (v := nI 1) dX8_isSoundNow_171 (by decide) ?_
                          refine J_goto (pc := 172) (tgt := 176) dX8_isSoundNow_172 (by decide) ?_
                          exact J_zret (pc := 176) dX8_isSoundNow_176 rfl (nar_b (by first | decide | omega)) ⟨⟨1, rfl, by omega⟩, ⟨rw71, nx72, b1, bt1, kn1, en1, ⟨h19_72, h20_72, h21_72, h22_72, hbb_72, hbl_72, hb3_72⟩, hF72, hgrw71, hgnx72, (by first | assumption | exact Or.inr (by assumption))⟩⟩
                    · refine J_iload (pc := 102) dX8_isSoundNow_102 rfl ?_
                      refine J_if_eqN (pc := 104) (tgt := 140) dX8_isSoundNow_104 (by decide) (by omega) (fun ht75 => ?_) (fun hf76 => ?_)
                      · refine J_iconst (pc := 140) (v := nI 0) dX8_isSoundNow_140 (by decide) ?_
                        refine J_istore (pc := 141) dX8_isSoundNow_141 (by decide) rfl ?_
                        show J X mX8_isSoundNow d (kc - 13) (ks - 2054) 143 [some (.ref 19), some (.int (nI k1)), some (.int z2), some (.int v11), some (.int (nI 0)), some (.int (nI c5))] [] w11 _
                        refine J_iincN (pc := 143) (b := 1) dX8_isSoundNow_143 rfl (by decide) (by decide) rfl ?_
                        show J X mX8_isSoundNow d (kc - 13) (ks - 2054) 146 [some (.ref 19), some (.int (nI k1)), some (.int z2), some (.int v11), some (.int (nI 0)), some (.int (nI (c5 + 1)))] [] w11 _
                        refine J_goto (pc := 146) (tgt := 95) dX8_isSoundNow_146 (by decide) ?_
                        exact J_sub (L' := [some (.ref 19), some (.int (nI k1)), some (.int z2), some (.int v11), some (.int (nI 0)), some (.int (nI (c5 + 1)))]) ⟨rfl, ⟨rfl, ⟨rfl, ⟨rfl, ⟨rfl, ⟨rfl, trivial⟩⟩⟩⟩⟩⟩ (ihlp95_65 0 (c5 + 1) (by first | assumption | omega) (by first | assumption | omega) (by omega))
                      · refine J_aload_n (pc := 107) dX8_isSoundNow_107 rfl rfl rfl ?_
                        refine J_bipush (pc := 108) (v := nI 63) dX8_isSoundNow_108 (by decide) ?_
                        refine J_iload (pc := 110) dX8_isSoundNow_110 rfl ?_
                        refine J_callV0 (pc := 112) (as := [.int (nI 63), .int (nI c5)]) dX8_isSoundNow_112 fw_X8_isInNow fl_X8_185 fm_X8_isInNow fe_X8_isInNow h19_11 (by decide) rfl rfl rfl (c_X8_isInNow_atk hs (d := d - 1) (Nat.le_trans (by decide) hdm) (w := w11) (n := n) (mv := mv) (rw := rw11) (nx := nx1) (b := b1) (bt := bt1) (kn := kn1) (en := en1) (dn := dn) (rf := rf) (kk := kk) (th := th) ⟨h19_11, h20_11, h21_11, h22_11, hbb_11, hbl_11, hb3_11⟩ hn1 hn2 gm hgrw11 hgnx1 63 c5 (by first | assumption | omega) (by first | assumption | omega) (by first | assumption | omega) (by first | assumption | omega) (by first | assumption | omega) (kc := 0) (ks := 0)) hdp (st := []) (Nat.le_of_ble_eq_true rfl) rfl (kr_I fun v77 w77 hv77 hw77 => ?_) kx_I
                        obtain ⟨hR77, hFc77⟩ := hw77
                        obtain ⟨h19_77, h20_77, h21_77, h22_77, hbb_77, hbl_77, hb3_77⟩ := hR77
                        have hF77 := hF11.tr hFc77
                        obtain ⟨k77, rfl, hk77⟩ := hv77
                        refine J_if_eqN (pc := 115) (tgt := 140) dX8_isSoundNow_115 (by decide) (by omega) (fun ht78 => ?_) (fun hf79 => ?_)
                        · refine J_iconst (pc := 140) (v := nI 0) dX8_isSoundNow_140 (by decide) ?_
                          refine J_istore (pc := 141) dX8_isSoundNow_141 (by decide) rfl ?_
                          show J X mX8_isSoundNow d (kc - 13) (ks - 2054) 143 [some (.ref 19), some (.int (nI k1)), some (.int z2), some (.int v11), some (.int (nI 0)), some (.int (nI c5))] [] w77 _
                          refine J_iincN (pc := 143) (b := 1) dX8_isSoundNow_143 rfl (by decide) (by decide) rfl ?_
                          show J X mX8_isSoundNow d (kc - 13) (ks - 2054) 146 [some (.ref 19), some (.int (nI k1)), some (.int z2), some (.int v11), some (.int (nI 0)), some (.int (nI (c5 + 1)))] [] w77 _
                          refine J_goto (pc := 146) (tgt := 95) dX8_isSoundNow_146 (by decide) ?_
                          exact J_sub (L' := [some (.ref 19), some (.int (nI k1)), some (.int z2), some (.int v11), some (.int (nI 0)), some (.int (nI (c5 + 1)))]) ⟨rfl, ⟨rfl, ⟨rfl, ⟨rfl, ⟨rfl, ⟨rfl, trivial⟩⟩⟩⟩⟩⟩ (ihlp95_65 0 (c5 + 1) (by first | assumption | omega) (by first | assumption | omega) (by omega))
                        · refine J_iload_n (pc := 118) dX8_isSoundNow_118 rfl rfl ?_
                          refine J_aload_n (pc := 119) dX8_isSoundNow_119 rfl rfl rfl ?_
                          refine J_aload_n (pc := 120) dX8_isSoundNow_120 rfl rfl rfl ?_
                          refine J_get (pc := 121) (k := 1) dX8_isSoundNow_121 kC9 (by decide) ff_X8_13 h19_77 rfl ?_
                          refine J_iload (pc := 124) dX8_isSoundNow_124 rfl ?_
                          refine J_bipush (pc := 126) (v := nI 7) dX8_isSoundNow_126 (by decide) ?_
                          refine J_imulN (pc := 128) dX8_isSoundNow_128 ?_
                          refine J_callV0 (pc := 129) (as := [.ref 20, .int (nI (c5 * 7))]) dX8_isSoundNow_129 fw_X8_orderOf fl_X8_172 fm_X8_orderOf fe_X8_orderOf h19_77 (by decide) rfl rfl rfl (c_X8_orderOf_at20 hs (d := d - 1) (Nat.le_trans (by decide) hdm) (w := w77) (n := n) (mv := mv) (rw := rw11) (nx := nx1) (b := b1) (bt := bt1) (kn := kn1) (en := en1) (dn := dn) (rf := rf) (kk := kk) (th := th) ⟨h19_77, h20_77, h21_77, h22_77, hbb_77, hbl_77, hb3_77⟩ hn1 hn2 gm hgrw11 hgnx1 (c5 * 7) (by first | assumption | omega) (by exact hy0 c5 (by omega)) (kc := 0) (ks := 0)) hdp (st := [.int (nI k1)]) (Nat.le_of_ble_eq_true rfl) rfl (kr_P fun v80 hv80 => ?_) kx_I
                          obtain ⟨k80, rfl, hk80⟩ := hv80
                          have hm81 := Nat.mod_lt k1 (show 0 < k80 by omega)
                          have hm82 := Nat.div_le_self k1 k80
                          refine J_iremN (pc := 132) dX8_isSoundNow_132 (by omega) (by omega) (by omega) ?_
                          refine J_if_neN (pc := 133) (tgt := 140) dX8_isSoundNow_133 (by decide) (by omega) (fun ht83 => ?_) (fun hf84 => ?_)
                          · refine J_iconst (pc := 140) (v := nI 0) dX8_isSoundNow_140 (by decide) ?_
                            refine J_istore (pc := 141) dX8_isSoundNow_141 (by decide) rfl ?_
                            show J X mX8_isSoundNow d (kc - 13) (ks - 2054) 143 [some (.ref 19), some (.int (nI k1)), some (.int z2), some (.int v11), some (.int (nI 0)), some (.int (nI c5))] [] w77 _
                            refine J_iincN (pc := 143) (b := 1) dX8_isSoundNow_143 rfl (by decide) (by decide) rfl ?_
                            show J X mX8_isSoundNow d (kc - 13) (ks - 2054) 146 [some (.ref 19), some (.int (nI k1)), some (.int z2), some (.int v11), some (.int (nI 0)), some (.int (nI (c5 + 1)))] [] w77 _
                            refine J_goto (pc := 146) (tgt := 95) dX8_isSoundNow_146 (by decide) ?_
                            exact J_sub (L' := [some (.ref 19), some (.int (nI k1)), some (.int z2), some (.int v11), some (.int (nI 0)), some (.int (nI (c5 + 1)))]) ⟨rfl, ⟨rfl, ⟨rfl, ⟨rfl, ⟨rfl, ⟨rfl, trivial⟩⟩⟩⟩⟩⟩ (ihlp95_65 0 (c5 + 1) (by first | assumption | omega) (by first | assumption | omega) (by omega))
                          · refine J_iconst (pc := 136) (v := nI 1) dX8_isSoundNow_136 (by decide) ?_
                            refine J_goto (pc := 137) (tgt := 141) dX8_isSoundNow_137 (by decide) ?_
                            refine J_istore (pc := 141) dX8_isSoundNow_141 (by decide) rfl ?_
                            show J X mX8_isSoundNow d (kc - 13) (ks - 2054) 143 [some (.ref 19), some (.int (nI k1)), some (.int z2), some (.int v11), some (.int (nI 1)), some (.int (nI c5))] [] w77 _
                            refine J_iincN (pc := 143) (b := 1) dX8_isSoundNow_143 rfl (by decide) (by decide) rfl ?_
                            show J X mX8_isSoundNow d (kc - 13) (ks - 2054) 146 [some (.ref 19), some (.int (nI k1)), some (.int z2), some (.int v11), some (.int (nI 1)), some (.int (nI (c5 + 1)))] [] w77 _
                            refine J_goto (pc := 146) (tgt := 95) dX8_isSoundNow_146 (by decide) ?_
                            exact J_sub (L' := [some (.ref 19), some (.int (nI k1)), some (.int z2), some (.int v11), some (.int (nI 1)), some (.int (nI (c5 + 1)))]) ⟨rfl, ⟨rfl, ⟨rfl, ⟨rfl, ⟨rfl, ⟨rfl, trivial⟩⟩⟩⟩⟩⟩ (ihlp95_65 1 (c5 + 1) (by first | assumption | omega) (by first | assumption | omega) (by omega))
                exact J_sub (L' := [some (.ref 19), some (.int (nI k1)), some (.int z2), some (.int v11), some (.int (nI 0)), some (.int (nI 0))]) ⟨rfl, ⟨rfl, ⟨rfl, ⟨rfl, ⟨rfl, ⟨rfl, trivial⟩⟩⟩⟩⟩⟩ (lp95_65 _ 0 0 (by first | assumption | omega) (by first | assumption | omega) (Nat.lt_succ_self _))
              · refine J_iconst (pc := 85) (v := nI 1) dX8_isSoundNow_85 (by decide) ?_
                refine J_goto (pc := 86) (tgt := 90) dX8_isSoundNow_86 (by decide) ?_
                refine J_istore (pc := 90) dX8_isSoundNow_90 (by decide) rfl ?_
                show J X mX8_isSoundNow d (kc - 13) (ks - 2054) 92 [some (.ref 19), some (.int (nI k1)), some (.int z2), some (.int v11), some (.int (nI 1)), none] [] w11 _
                refine J_iconst (pc := 92) (v := nI 0) dX8_isSoundNow_92 (by decide) ?_
                refine J_istore (pc := 93) dX8_isSoundNow_93 (by decide) rfl ?_
                show J X mX8_isSoundNow d (kc - 13) (ks - 2054) 95 [some (.ref 19), some (.int (nI k1)), some (.int z2), some (.int v11), some (.int (nI 1)), some (.int (nI 0))] [] w11 _
                have lp95_85 : ∀ (fuel : Nat) (y4 : Nat) (c5 : Nat), (y4 < 2) → (c5 ≤ 6) → (6 - c5 < fuel) → J X mX8_isSoundNow d (kc - 13) (ks - 2054) 95 [some (.ref 19), some (.int (nI k1)), some (.int z2), some (.int v11), some (.int (nI y4)), some (.int (nI c5))] [] w11 (pI (fun v => ∃ k : Nat, v = nI k ∧ k < 2) (fun w' => ∃ (rw' : Nat → Nat), ∃ (nx' : Nat → Nat), ∃ (b' : Nat), ∃ (bt' : List Int32), ∃ (kn' : Int32), ∃ (en' : Int32), RM n mv rw' nx' b' bt' kn' en' dn rf kk th w' ∧ FR b b' w w' ∧ (∀ i, rw' i < 7) ∧ (∀ i, nx' i < 7) ∧ KB n kn' bt')) := by
                  intro fuellp95_85
                  induction fuellp95_85 with
                  | zero => intros; omega
                  | succ fuellp95_85 ihlp95_85 =>
                    intro y4 c5 hv95_0 hv95_1 hf86
                    refine J_iload (pc := 95) dX8_isSoundNow_95 rfl ?_
                    refine J_bipush (pc := 97) (v := nI 6) dX8_isSoundNow_97 (by decide) ?_
                    refine J_icmp_geN (pc := 99) (tgt := 149) dX8_isSoundNow_99 (by decide) (by omega) (by omega) (fun ht87 => ?_) (fun hf88 => ?_)
                    · refine J_iload (pc := 149) dX8_isSoundNow_149 rfl ?_
                      refine J_if_eqN (pc := 151) (tgt := 175) dX8_isSoundNow_151 (by decide) (by omega) (fun ht89 => ?_) (fun hf90 => ?_)
                      · refine J_iconst (pc := 175) (v := nI 0) dX8_isSoundNow_175 (by decide) ?_
                        exact J_zret (pc := 176) dX8_isSoundNow_176 rfl (nar_b (by first | decide | omega)) ⟨⟨0, rfl, by omega⟩, ⟨rw11, nx1, b1, bt1, kn1, en1, ⟨h19_11, h20_11, h21_11, h22_11, hbb_11, hbl_11, hb3_11⟩, hF11, hgrw11, hgnx1, (by first | assumption | exact Or.inr (by assumption))⟩⟩
                      · refine J_aload_n (pc := 154) dX8_isSoundNow_154 rfl rfl rfl ?_
                        refine J_bipush (pc := 155) (v := nI 63) dX8_isSoundNow_155 (by decide) ?_
                        refine J_iconst (pc := 157) (v := nI 2) dX8_isSoundNow_157 (by decide) ?_
                        refine J_callV0 (pc := 158) (as := [.int (nI 63), .int (nI 2)]) dX8_isSoundNow_158 fw_X8_byThoseThatStay fl_X8_197 fm_X8_byThoseThatStay fe_X8_byThoseThatStay h19_11 (by decide) rfl rfl rfl (c_X8_byThoseThatStay_atk hs (d := d - 1) (Nat.le_trans (by decide) hdm) (w := w11) (n := n) (mv := mv) (rw := rw11) (nx := nx1) (b := b1) (bt := bt1) (kn := kn1) (en := en1) (dn := dn) (rf := rf) (kk := kk) (th := th) ⟨h19_11, h20_11, h21_11, h22_11, hbb_11, hbl_11, hb3_11⟩ hn1 hn2 gm hgrw11 hgnx1 63 (nI 2) (by first | assumption | omega) (by first | assumption | omega) (by first | assumption | omega) (by first | assumption | omega) (kc := 0) (ks := 0)) hdp (st := []) (Nat.le_of_ble_eq_true rfl) rfl (kr_I fun v91 w91 hv91 hw91 => ?_) kx_I
                        obtain ⟨rw91, hR91, hFc91, hgrw91⟩ := hw91
                        obtain ⟨h19_91, h20_91, h21_91, h22_91, hbb_91, hbl_91, hb3_91⟩ := hR91
                        have hF91 := hF11.tr hFc91
                        refine J_aload_n (pc := 161) dX8_isSoundNow_161 rfl rfl rfl ?_
                        refine J_bipush (pc := 162) (v := nI 63) dX8_isSoundNow_162 (by decide) ?_
                        refine J_iconst (pc := 164) (v := nI 2) dX8_isSoundNow_164 (by decide) ?_
                        refine J_callV (pc := 165) (as := [.int (nI 63), .int (nI 2)]) dX8_isSoundNow_165 fw_X8_oneByOne fl_X8_200 fm_X8_oneByOne fe_X8_oneByOne h19_91 (by decide) rfl rfl rfl (c_X8_oneByOne hs (d := d - 1) (Nat.le_trans (by decide) hdm) (w := w91) (n := n) (mv := mv) (rw := rw91) (nx := nx1) (b := b1) (bt := bt1) (kn := kn1) (en := en1) (dn := dn) (rf := rf) (kk := kk) (th := th) ⟨h19_91, h20_91, h21_91, h22_91, hbb_91, hbl_91, hb3_91⟩ hn1 hn2 gm hgrw91 hgnx1 63 2 (by first | assumption | omega) (by first | assumption | omega) (by first | assumption | omega) (by first | assumption | omega) (kc := 2) (ks := 4374) (Nat.le_refl _) (Nat.le_refl _)) hdp (by omega) (by omega) (st := [.int v91]) (Nat.le_of_ble_eq_true rfl) rfl (kr_I fun v92 w92 hv92 hw92 => ?_) kx_I
                        obtain ⟨nx92, hR92, hFc92, hgnx92⟩ := hw92
                        obtain ⟨h19_92, h20_92, h21_92, h22_92, hbb_92, hbl_92, hb3_92⟩ := hR92
                        have hF92 := hF91.tr hFc92
                        refine J_icmp_ne (pc := 168) (tgt := 175) dX8_isSoundNow_168 (by decide) (fun ht93 => ?_) (fun hf94 => ?_)
                        · refine J_iconst (pc := 175) (v := nI 0) dX8_isSoundNow_175 (by decide) ?_
                          exact J_zret (pc := 176) dX8_isSoundNow_176 rfl (nar_b (by first | decide | omega)) ⟨⟨0, rfl, by omega⟩, ⟨rw91, nx92, b1, bt1, kn1, en1, ⟨h19_92, h20_92, h21_92, h22_92, hbb_92, hbl_92, hb3_92⟩, hF92, hgrw91, hgnx92, (by first | assumption | exact Or.inr (by assumption))⟩⟩
                        · refine J_iconst (pc := 171) (v := nI 1) dX8_isSoundNow_171 (by decide) ?_
                          refine J_goto (pc := 172) (tgt := 176) dX8_isSoundNow_172 (by decide) ?_
                          exact J_zret (pc := 176) dX8_isSoundNow_176 rfl (nar_b (by first | decide | omega)) ⟨⟨1, rfl, by omega⟩, ⟨rw91, nx92, b1, bt1, kn1, en1, ⟨h19_92, h20_92, h21_92, h22_92, hbb_92, hbl_92, hb3_92⟩, hF92, hgrw91, hgnx92, (by first | assumption | exact Or.inr (by assumption))⟩⟩
                    · refine J_iload (pc := 102) dX8_isSoundNow_102 rfl ?_
                      refine J_if_eqN (pc := 104) (tgt := 140) dX8_isSoundNow_104 (by decide) (by omega) (fun ht95 => ?_) (fun hf96 => ?_)
                      · refine J_iconst (pc := 140) (v := nI 0) dX8_isSoundNow_140 (by decide) ?_
                        refine J_istore (pc := 141) dX8_isSoundNow_141 (by decide) rfl ?_
                        show J X mX8_isSoundNow d (kc - 13) (ks - 2054) 143 [some (.ref 19), some (.int (nI k1)), some (.int z2), some (.int v11), some (.int (nI 0)), some (.int (nI c5))] [] w11 _
                        refine J_iincN (pc := 143) (b := 1) dX8_isSoundNow_143 rfl (by decide) (by decide) rfl ?_
                        show J X mX8_isSoundNow d (kc - 13) (ks - 2054) 146 [some (.ref 19), some (.int (nI k1)), some (.int z2), some (.int v11), some (.int (nI 0)), some (.int (nI (c5 + 1)))] [] w11 _
                        refine J_goto (pc := 146) (tgt := 95) dX8_isSoundNow_146 (by decide) ?_
                        exact J_sub (L' := [some (.ref 19), some (.int (nI k1)), some (.int z2), some (.int v11), some (.int (nI 0)), some (.int (nI (c5 + 1)))]) ⟨rfl, ⟨rfl, ⟨rfl, ⟨rfl, ⟨rfl, ⟨rfl, trivial⟩⟩⟩⟩⟩⟩ (ihlp95_85 0 (c5 + 1) (by first | assumption | omega) (by first | assumption | omega) (by omega))
                      · refine J_aload_n (pc := 107) dX8_isSoundNow_107 rfl rfl rfl ?_
                        refine J_bipush (pc := 108) (v := nI 63) dX8_isSoundNow_108 (by decide) ?_
                        refine J_iload (pc := 110) dX8_isSoundNow_110 rfl ?_
                        refine J_callV0 (pc := 112) (as := [.int (nI 63), .int (nI c5)]) dX8_isSoundNow_112 fw_X8_isInNow fl_X8_185 fm_X8_isInNow fe_X8_isInNow h19_11 (by decide) rfl rfl rfl (c_X8_isInNow_atk hs (d := d - 1) (Nat.le_trans (by decide) hdm) (w := w11) (n := n) (mv := mv) (rw := rw11) (nx := nx1) (b := b1) (bt := bt1) (kn := kn1) (en := en1) (dn := dn) (rf := rf) (kk := kk) (th := th) ⟨h19_11, h20_11, h21_11, h22_11, hbb_11, hbl_11, hb3_11⟩ hn1 hn2 gm hgrw11 hgnx1 63 c5 (by first | assumption | omega) (by first | assumption | omega) (by first | assumption | omega) (by first | assumption | omega) (by first | assumption | omega) (kc := 0) (ks := 0)) hdp (st := []) (Nat.le_of_ble_eq_true rfl) rfl (kr_I fun v97 w97 hv97 hw97 => ?_) kx_I
                        obtain ⟨hR97, hFc97⟩ := hw97
                        obtain ⟨h19_97, h20_97, h21_97, h22_97, hbb_97, hbl_97, hb3_97⟩ := hR97
                        have hF97 := hF11.tr hFc97
                        obtain ⟨k97, rfl, hk97⟩ := hv97
                        refine J_if_eqN (pc := 115) (tgt := 140) dX8_isSoundNow_115 (by decide) (by omega) (fun ht98 => ?_) (fun hf99 => ?_)
                        · refine J_iconst (pc := 140) (v := nI 0) dX8_isSoundNow_140 (by decide) ?_
                          refine J_istore (pc := 141) dX8_isSoundNow_141 (by decide) rfl ?_
                          show J X mX8_isSoundNow d (kc - 13) (ks - 2054) 143 [some (.ref 19), some (.int (nI k1)), some (.int z2), some (.int v11), some (.int (nI 0)), some (.int (nI c5))] [] w97 _
                          refine J_iincN (pc := 143) (b := 1) dX8_isSoundNow_143 rfl (by decide) (by decide) rfl ?_
                          show J X mX8_isSoundNow d (kc - 13) (ks - 2054) 146 [some (.ref 19), some (.int (nI k1)), some (.int z2), some (.int v11), some (.int (nI 0)), some (.int (nI (c5 + 1)))] [] w97 _
                          refine J_goto (pc := 146) (tgt := 95) dX8_isSoundNow_146 (by decide) ?_
                          exact J_sub (L' := [some (.ref 19), some (.int (nI k1)), some (.int z2), some (.int v11), some (.int (nI 0)), some (.int (nI (c5 + 1)))]) ⟨rfl, ⟨rfl, ⟨rfl, ⟨rfl, ⟨rfl, ⟨rfl, trivial⟩⟩⟩⟩⟩⟩ (ihlp95_85 0 (c5 + 1) (by first | assumption | omega) (by first | assumption | omega) (by omega))
                        · refine J_iload_n (pc := 118) dX8_isSoundNow_118 rfl rfl ?_
                          refine J_aload_n (pc := 119) dX8_isSoundNow_119 rfl rfl rfl ?_
                          refine J_aload_n (pc := 120) dX8_isSoundNow_120 rfl rfl rfl ?_
                          refine J_get (pc := 121) (k := 1) dX8_isSoundNow_121 kC9 (by decide) ff_X8_13 h19_97 rfl ?_
                          refine J_iload (pc := 124) dX8_isSoundNow_124 rfl ?_
                          refine J_bipush (pc := 126) (v := nI 7) dX8_isSoundNow_126 (by decide) ?_
                          refine J_imulN (pc := 128) dX8_isSoundNow_128 ?_
                          refine J_callV0 (pc := 129) (as := [.ref 20, .int (nI (c5 * 7))]) dX8_isSoundNow_129 fw_X8_orderOf fl_X8_172 fm_X8_orderOf fe_X8_orderOf h19_97 (by decide) rfl rfl rfl (c_X8_orderOf_at20 hs (d := d - 1) (Nat.le_trans (by decide) hdm) (w := w97) (n := n) (mv := mv) (rw := rw11) (nx := nx1) (b := b1) (bt := bt1) (kn := kn1) (en := en1) (dn := dn) (rf := rf) (kk := kk) (th := th) ⟨h19_97, h20_97, h21_97, h22_97, hbb_97, hbl_97, hb3_97⟩ hn1 hn2 gm hgrw11 hgnx1 (c5 * 7) (by first | assumption | omega) (by exact hy0 c5 (by omega)) (kc := 0) (ks := 0)) hdp (st := [.int (nI k1)]) (Nat.le_of_ble_eq_true rfl) rfl (kr_P fun v100 hv100 => ?_) kx_I
                          obtain ⟨k100, rfl, hk100⟩ := hv100
                          have hm101 := Nat.mod_lt k1 (show 0 < k100 by omega)
                          have hm102 := Nat.div_le_self k1 k100
                          refine J_iremN (pc := 132) dX8_isSoundNow_132 (by omega) (by omega) (by omega) ?_
                          refine J_if_neN (pc := 133) (tgt := 140) dX8_isSoundNow_133 (by decide) (by omega) (fun ht103 => ?_) (fun hf104 => ?_)
                          · refine J_iconst (pc := 140) (v := nI 0) dX8_isSoundNow_140 (by decide) ?_
                            refine J_istore (pc := 141) dX8_isSoundNow_141 (by decide) rfl ?_
                            show J X mX8_isSoundNow d (kc - 13) (ks - 2054) 143 [some (.ref 19), some (.int (nI k1)), some (.int z2), some (.int v11), some (.int (nI 0)), some (.int (nI c5))] [] w97 _
                            refine J_iincN (pc := 143) (b := 1) dX8_isSoundNow_143 rfl (by decide) (by decide) rfl ?_
                            show J X mX8_isSoundNow d (kc - 13) (ks - 2054) 146 [some (.ref 19), some (.int (nI k1)), some (.int z2), some (.int v11), some (.int (nI 0)), some (.int (nI (c5 + 1)))] [] w97 _
                            refine J_goto (pc := 146) (tgt := 95) dX8_isSoundNow_146 (by decide) ?_
                            exact J_sub (L' := [some (.ref 19), some (.int (nI k1)), some (.int z2), some (.int v11), some (.int (nI 0)), some (.int (nI (c5 + 1)))]) ⟨rfl, ⟨rfl, ⟨rfl, ⟨rfl, ⟨rfl, ⟨rfl, trivial⟩⟩⟩⟩⟩⟩ (ihlp95_85 0 (c5 + 1) (by first | assumption | omega) (by first | assumption | omega) (by omega))
                          · refine J_iconst (pc := 136) (v := nI 1) dX8_isSoundNow_136 (by decide) ?_
                            refine J_goto (pc := 137) (tgt := 141) dX8_isSoundNow_137 (by decide) ?_
                            refine J_istore (pc := 141) dX8_isSoundNow_141 (by decide) rfl ?_
                            show J X mX8_isSoundNow d (kc - 13) (ks - 2054) 143 [some (.ref 19), some (.int (nI k1)), some (.int z2), some (.int v11), some (.int (nI 1)), some (.int (nI c5))] [] w97 _
                            refine J_iincN (pc := 143) (b := 1) dX8_isSoundNow_143 rfl (by decide) (by decide) rfl ?_
                            show J X mX8_isSoundNow d (kc - 13) (ks - 2054) 146 [some (.ref 19), some (.int (nI k1)), some (.int z2), some (.int v11), some (.int (nI 1)), some (.int (nI (c5 + 1)))] [] w97 _
                            refine J_goto (pc := 146) (tgt := 95) dX8_isSoundNow_146 (by decide) ?_
                            exact J_sub (L' := [some (.ref 19), some (.int (nI k1)), some (.int z2), some (.int v11), some (.int (nI 1)), some (.int (nI (c5 + 1)))]) ⟨rfl, ⟨rfl, ⟨rfl, ⟨rfl, ⟨rfl, ⟨rfl, trivial⟩⟩⟩⟩⟩⟩ (ihlp95_85 1 (c5 + 1) (by first | assumption | omega) (by first | assumption | omega) (by omega))
                exact J_sub (L' := [some (.ref 19), some (.int (nI k1)), some (.int z2), some (.int v11), some (.int (nI 1)), some (.int (nI 0))]) ⟨rfl, ⟨rfl, ⟨rfl, ⟨rfl, ⟨rfl, ⟨rfl, trivial⟩⟩⟩⟩⟩⟩ (lp95_85 _ 1 0 (by first | assumption | omega) (by first | assumption | omega) (Nat.lt_succ_self _))
            · refine J_iconst (pc := 65) (v := nI 2) dX8_isSoundNow_65 (by decide) ?_
              refine J_iload_n (pc := 66) dX8_isSoundNow_66 rfl rfl ?_
              refine J_imul (pc := 67) dX8_isSoundNow_67 (J_absI fun x105 => ?_)
              refine J_iload_n (pc := 68) dX8_isSoundNow_68 rfl rfl ?_
              refine J_icmp_ne (pc := 69) (tgt := 89) dX8_isSoundNow_69 (by decide) (fun ht106 => ?_) (fun hf107 => ?_)
              · refine J_iconst (pc := 89) (v := nI 0) dX8_isSoundNow_89 (by decide) ?_
                refine J_istore (pc := 90) dX8_isSoundNow_90 (by decide) rfl ?_
                show J X mX8_isSoundNow d (kc - 13) (ks - 2054) 92 [some (.ref 19), some (.int (nI k1)), some (.int z2), some (.int v11), some (.int (nI 0)), none] [] w11 _
                refine J_iconst (pc := 92) (v := nI 0) dX8_isSoundNow_92 (by decide) ?_
                refine J_istore (pc := 93) dX8_isSoundNow_93 (by decide) rfl ?_
                show J X mX8_isSoundNow d (kc - 13) (ks - 2054) 95 [some (.ref 19), some (.int (nI k1)), some (.int z2), some (.int v11), some (.int (nI 0)), some (.int (nI 0))] [] w11 _
                have lp95_108 : ∀ (fuel : Nat) (y4 : Nat) (c5 : Nat), (y4 < 2) → (c5 ≤ 6) → (6 - c5 < fuel) → J X mX8_isSoundNow d (kc - 13) (ks - 2054) 95 [some (.ref 19), some (.int (nI k1)), some (.int z2), some (.int v11), some (.int (nI y4)), some (.int (nI c5))] [] w11 (pI (fun v => ∃ k : Nat, v = nI k ∧ k < 2) (fun w' => ∃ (rw' : Nat → Nat), ∃ (nx' : Nat → Nat), ∃ (b' : Nat), ∃ (bt' : List Int32), ∃ (kn' : Int32), ∃ (en' : Int32), RM n mv rw' nx' b' bt' kn' en' dn rf kk th w' ∧ FR b b' w w' ∧ (∀ i, rw' i < 7) ∧ (∀ i, nx' i < 7) ∧ KB n kn' bt')) := by
                  intro fuellp95_108
                  induction fuellp95_108 with
                  | zero => intros; omega
                  | succ fuellp95_108 ihlp95_108 =>
                    intro y4 c5 hv95_0 hv95_1 hf109
                    refine J_iload (pc := 95) dX8_isSoundNow_95 rfl ?_
                    refine J_bipush (pc := 97) (v := nI 6) dX8_isSoundNow_97 (by decide) ?_
                    refine J_icmp_geN (pc := 99) (tgt := 149) dX8_isSoundNow_99 (by decide) (by omega) (by omega) (fun ht110 => ?_) (fun hf111 => ?_)
                    · refine J_iload (pc := 149) dX8_isSoundNow_149 rfl ?_
                      refine J_if_eqN (pc := 151) (tgt := 175) dX8_isSoundNow_151 (by decide) (by omega) (fun ht112 => ?_) (fun hf113 => ?_)
                      · refine J_iconst (pc := 175) (v := nI 0) dX8_isSoundNow_175 (by decide) ?_
                        exact J_zret (pc := 176) dX8_isSoundNow_176 rfl (nar_b (by first | decide | omega)) ⟨⟨0, rfl, by omega⟩, ⟨rw11, nx1, b1, bt1, kn1, en1, ⟨h19_11, h20_11, h21_11, h22_11, hbb_11, hbl_11, hb3_11⟩, hF11, hgrw11, hgnx1, (by first | assumption | exact Or.inr (by assumption))⟩⟩
                      · refine J_aload_n (pc := 154) dX8_isSoundNow_154 rfl rfl rfl ?_
                        refine J_bipush (pc := 155) (v := nI 63) dX8_isSoundNow_155 (by decide) ?_
                        refine J_iconst (pc := 157) (v := nI 2) dX8_isSoundNow_157 (by decide) ?_
                        refine J_callV0 (pc := 158) (as := [.int (nI 63), .int (nI 2)]) dX8_isSoundNow_158 fw_X8_byThoseThatStay fl_X8_197 fm_X8_byThoseThatStay fe_X8_byThoseThatStay h19_11 (by decide) rfl rfl rfl (c_X8_byThoseThatStay_atk hs (d := d - 1) (Nat.le_trans (by decide) hdm) (w := w11) (n := n) (mv := mv) (rw := rw11) (nx := nx1) (b := b1) (bt := bt1) (kn := kn1) (en := en1) (dn := dn) (rf := rf) (kk := kk) (th := th) ⟨h19_11, h20_11, h21_11, h22_11, hbb_11, hbl_11, hb3_11⟩ hn1 hn2 gm hgrw11 hgnx1 63 (nI 2) (by first | assumption | omega) (by first | assumption | omega) (by first | assumption | omega) (by first | assumption | omega) (kc := 0) (ks := 0)) hdp (st := []) (Nat.le_of_ble_eq_true rfl) rfl (kr_I fun v114 w114 hv114 hw114 => ?_) kx_I
                        obtain ⟨rw114, hR114, hFc114, hgrw114⟩ := hw114
                        obtain ⟨h19_114, h20_114, h21_114, h22_114, hbb_114, hbl_114, hb3_114⟩ := hR114
                        have hF114 := hF11.tr hFc114
                        refine J_aload_n (pc := 161) dX8_isSoundNow_161 rfl rfl rfl ?_
                        refine J_bipush (pc := 162) (v := nI 63) dX8_isSoundNow_162 (by decide) ?_
                        refine J_iconst (pc := 164) (v := nI 2) dX8_isSoundNow_164 (by decide) ?_
                        refine J_callV (pc := 165) (as := [.int (nI 63), .int (nI 2)]) dX8_isSoundNow_165 fw_X8_oneByOne fl_X8_200 fm_X8_oneByOne fe_X8_oneByOne h19_114 (by decide) rfl rfl rfl (c_X8_oneByOne hs (d := d - 1) (Nat.le_trans (by decide) hdm) (w := w114) (n := n) (mv := mv) (rw := rw114) (nx := nx1) (b := b1) (bt := bt1) (kn := kn1) (en := en1) (dn := dn) (rf := rf) (kk := kk) (th := th) ⟨h19_114, h20_114, h21_114, h22_114, hbb_114, hbl_114, hb3_114⟩ hn1 hn2 gm hgrw114 hgnx1 63 2 (by first | assumption | omega) (by first | assumption | omega) (by first | assumption | omega) (by first | assumption | omega) (kc := 2) (ks := 4374) (Nat.le_refl _) (Nat.le_refl _)) hdp (by omega) (by omega) (st := [.int v114]) (Nat.le_of_ble_eq_true rfl) rfl (kr_I fun v115 w115 hv115 hw115 => ?_) kx_I
                        obtain ⟨nx115, hR115, hFc115, hgnx115⟩ := hw115
                        obtain ⟨h19_115, h20_115, h21_115, h22_115, hbb_115, hbl_115, hb3_115⟩ := hR115
                        have hF115 := hF114.tr hFc115
                        refine J_icmp_ne (pc := 168) (tgt := 175) dX8_isSoundNow_168 (by decide) (fun ht116 => ?_) (fun hf117 => ?_)
                        · refine J_iconst (pc := 175) (v := nI 0) dX8_isSoundNow_175 (by decide) ?_
                          exact J_zret (pc := 176) dX8_isSoundNow_176 rfl (nar_b (by first | decide | omega)) ⟨⟨0, rfl, by omega⟩, ⟨rw114, nx115, b1, bt1, kn1, en1, ⟨h19_115, h20_115, h21_115, h22_115, hbb_115, hbl_115, hb3_115⟩, hF115, hgrw114, hgnx115, (by first | assumption | exact Or.inr (by assumption))⟩⟩
                        · refine J_iconst (pc := 171) (v := nI 1) dX8_isSoundNow_171 (by decide) ?_
                          refine J_goto (pc := 172) (tgt := 176) dX8_isSoundNow_172 (by decide) ?_
                          exact J_zret (pc := 176) dX8_isSoundNow_176 rfl (nar_b (by first | decide | omega)) ⟨⟨1, rfl, by omega⟩, ⟨rw114, nx115, b1, bt1, kn1, en1, ⟨h19_115, h20_115, h21_115, h22_115, hbb_115, hbl_115, hb3_115⟩, hF115, hgrw114, hgnx115, (by first | assumption | exact Or.inr (by assumption))⟩⟩
                    · refine J_iload (pc := 102) dX8_isSoundNow_102 rfl ?_
                      refine J_if_eqN (pc := 104) (tgt := 140) dX8_isSoundNow_104 (by decide) (by omega) (fun ht118 => ?_) (fun hf119 => ?_)
                      · refine J_iconst (pc := 140) (v := nI 0) dX8_isSoundNow_140 (by decide) ?_
                        refine J_istore (pc := 141) dX8_isSoundNow_141 (by decide) rfl ?_
                        show J X mX8_isSoundNow d (kc - 13) (ks - 2054) 143 [some (.ref 19), some (.int (nI k1)), some (.int z2), some (.int v11), some (.int (nI 0)), some (.int (nI c5))] [] w11 _
                        refine J_iincN (pc := 143) (b := 1) dX8_isSoundNow_143 rfl (by decide) (by decide) rfl ?_
                        show J X mX8_isSoundNow d (kc - 13) (ks - 2054) 146 [some (.ref 19), some (.int (nI k1)), some (.int z2), some (.int v11), some (.int (nI 0)), some (.int (nI (c5 + 1)))] [] w11 _
                        refine J_goto (pc := 146) (tgt := 95) dX8_isSoundNow_146 (by decide) ?_
                        exact J_sub (L' := [some (.ref 19), some (.int (nI k1)), some (.int z2), some (.int v11), some (.int (nI 0)), some (.int (nI (c5 + 1)))]) ⟨rfl, ⟨rfl, ⟨rfl, ⟨rfl, ⟨rfl, ⟨rfl, trivial⟩⟩⟩⟩⟩⟩ (ihlp95_108 0 (c5 + 1) (by first | assumption | omega) (by first | assumption | omega) (by omega))
                      · refine J_aload_n (pc := 107) dX8_isSoundNow_107 rfl rfl rfl ?_
                        refine J_bipush (pc := 108) (v := nI 63) dX8_isSoundNow_108 (by decide) ?_
                        refine J_iload (pc := 110) dX8_isSoundNow_110 rfl ?_
                        refine J_callV0 (pc := 112) (as := [.int (nI 63), .int (nI c5)]) dX8_isSoundNow_112 fw_X8_isInNow fl_X8_185 fm_X8_isInNow fe_X8_isInNow h19_11 (by decide) rfl rfl rfl (c_X8_isInNow_atk hs (d := d - 1) (Nat.le_trans (by decide) hdm) (w := w11) (n := n) (mv := mv) (rw := rw11) (nx := nx1) (b := b1) (bt := bt1) (kn := kn1) (en := en1) (dn := dn) (rf := rf) (kk := kk) (th := th) ⟨h19_11, h20_11, h21_11, h22_11, hbb_11, hbl_11, hb3_11⟩ hn1 hn2 gm hgrw11 hgnx1 63 c5 (by first | assumption | omega) (by first | assumption | omega) (by first | assumption | omega) (by first | assumption | omega) (by first | assumption | omega) (kc := 0) (ks := 0)) hdp (st := []) (Nat.le_of_ble_eq_true rfl) rfl (kr_I fun v120 w120 hv120 hw120 => ?_) kx_I
                        obtain ⟨hR120, hFc120⟩ := hw120
                        obtain ⟨h19_120, h20_120, h21_120, h22_120, hbb_120, hbl_120, hb3_120⟩ := hR120
                        have hF120 := hF11.tr hFc120
                        obtain ⟨k120, rfl, hk120⟩ := hv120
                        refine J_if_eqN (pc := 115) (tgt := 140) dX8_isSoundNow_115 (by decide) (by omega) (fun ht121 => ?_) (fun hf122 => ?_)
                        · refine J_iconst (pc := 140) (v := nI 0) dX8_isSoundNow_140 (by decide) ?_
                          refine J_istore (pc := 141) dX8_isSoundNow_141 (by decide) rfl ?_
                          show J X mX8_isSoundNow d (kc - 13) (ks - 2054) 143 [some (.ref 19), some (.int (nI k1)), some (.int z2), some (.int v11), some (.int (nI 0)), some (.int (nI c5))] [] w120 _
                          refine J_iincN (pc := 143) (b := 1) dX8_isSoundNow_143 rfl (by decide) (by decide) rfl ?_
                          show J X mX8_isSoundNow d (kc - 13) (ks - 2054) 146 [some (.ref 19), some (.int (nI k1)), some (.int z2), some (.int v11), some (.int (nI 0)), some (.int (nI (c5 + 1)))] [] w120 _
                          refine J_goto (pc := 146) (tgt := 95) dX8_isSoundNow_146 (by decide) ?_
                          exact J_sub (L' := [some (.ref 19), some (.int (nI k1)), some (.int z2), some (.int v11), some (.int (nI 0)), some (.int (nI (c5 + 1)))]) ⟨rfl, ⟨rfl, ⟨rfl, ⟨rfl, ⟨rfl, ⟨rfl, trivial⟩⟩⟩⟩⟩⟩ (ihlp95_108 0 (c5 + 1) (by first | assumption | omega) (by first | assumption | omega) (by omega))
                        · refine J_iload_n (pc := 118) dX8_isSoundNow_118 rfl rfl ?_
                          refine J_aload_n (pc := 119) dX8_isSoundNow_119 rfl rfl rfl ?_
                          refine J_aload_n (pc := 120) dX8_isSoundNow_120 rfl rfl rfl ?_
                          refine J_get (pc := 121) (k := 1) dX8_isSoundNow_121 kC9 (by decide) ff_X8_13 h19_120 rfl ?_
                          refine J_iload (pc := 124) dX8_isSoundNow_124 rfl ?_
                          refine J_bipush (pc := 126) (v := nI 7) dX8_isSoundNow_126 (by decide) ?_
                          refine J_imulN (pc := 128) dX8_isSoundNow_128 ?_
                          refine J_callV0 (pc := 129) (as := [.ref 20, .int (nI (c5 * 7))]) dX8_isSoundNow_129 fw_X8_orderOf fl_X8_172 fm_X8_orderOf fe_X8_orderOf h19_120 (by decide) rfl rfl rfl (c_X8_orderOf_at20 hs (d := d - 1) (Nat.le_trans (by decide) hdm) (w := w120) (n := n) (mv := mv) (rw := rw11) (nx := nx1) (b := b1) (bt := bt1) (kn := kn1) (en := en1) (dn := dn) (rf := rf) (kk := kk) (th := th) ⟨h19_120, h20_120, h21_120, h22_120, hbb_120, hbl_120, hb3_120⟩ hn1 hn2 gm hgrw11 hgnx1 (c5 * 7) (by first | assumption | omega) (by exact hy0 c5 (by omega)) (kc := 0) (ks := 0)) hdp (st := [.int (nI k1)]) (Nat.le_of_ble_eq_true rfl) rfl (kr_P fun v123 hv123 => ?_) kx_I
                          obtain ⟨k123, rfl, hk123⟩ := hv123
                          have hm124 := Nat.mod_lt k1 (show 0 < k123 by omega)
                          have hm125 := Nat.div_le_self k1 k123
                          refine J_iremN (pc := 132) dX8_isSoundNow_132 (by omega) (by omega) (by omega) ?_
                          refine J_if_neN (pc := 133) (tgt := 140) dX8_isSoundNow_133 (by decide) (by omega) (fun ht126 => ?_) (fun hf127 => ?_)
                          · refine J_iconst (pc := 140) (v := nI 0) dX8_isSoundNow_140 (by decide) ?_
                            refine J_istore (pc := 141) dX8_isSoundNow_141 (by decide) rfl ?_
                            show J X mX8_isSoundNow d (kc - 13) (ks - 2054) 143 [some (.ref 19), some (.int (nI k1)), some (.int z2), some (.int v11), some (.int (nI 0)), some (.int (nI c5))] [] w120 _
                            refine J_iincN (pc := 143) (b := 1) dX8_isSoundNow_143 rfl (by decide) (by decide) rfl ?_
                            show J X mX8_isSoundNow d (kc - 13) (ks - 2054) 146 [some (.ref 19), some (.int (nI k1)), some (.int z2), some (.int v11), some (.int (nI 0)), some (.int (nI (c5 + 1)))] [] w120 _
                            refine J_goto (pc := 146) (tgt := 95) dX8_isSoundNow_146 (by decide) ?_
                            exact J_sub (L' := [some (.ref 19), some (.int (nI k1)), some (.int z2), some (.int v11), some (.int (nI 0)), some (.int (nI (c5 + 1)))]) ⟨rfl, ⟨rfl, ⟨rfl, ⟨rfl, ⟨rfl, ⟨rfl, trivial⟩⟩⟩⟩⟩⟩ (ihlp95_108 0 (c5 + 1) (by first | assumption | omega) (by first | assumption | omega) (by omega))
                          · refine J_iconst (pc := 136) (v := nI 1) dX8_isSoundNow_136 (by decide) ?_
                            refine J_goto (pc := 137) (tgt := 141) dX8_isSoundNow_137 (by decide) ?_
                            refine J_istore (pc := 141) dX8_isSoundNow_141 (by decide) rfl ?_
                            show J X mX8_isSoundNow d (kc - 13) (ks - 2054) 143 [some (.ref 19), some (.int (nI k1)), some (.int z2), some (.int v11), some (.int (nI 1)), some (.int (nI c5))] [] w120 _
                            refine J_iincN (pc := 143) (b := 1) dX8_isSoundNow_143 rfl (by decide) (by decide) rfl ?_
                            show J X mX8_isSoundNow d (kc - 13) (ks - 2054) 146 [some (.ref 19), some (.int (nI k1)), some (.int z2), some (.int v11), some (.int (nI 1)), some (.int (nI (c5 + 1)))] [] w120 _
                            refine J_goto (pc := 146) (tgt := 95) dX8_isSoundNow_146 (by decide) ?_
                            exact J_sub (L' := [some (.ref 19), some (.int (nI k1)), some (.int z2), some (.int v11), some (.int (nI 1)), some (.int (nI (c5 + 1)))]) ⟨rfl, ⟨rfl, ⟨rfl, ⟨rfl, ⟨rfl, ⟨rfl, trivial⟩⟩⟩⟩⟩⟩ (ihlp95_108 1 (c5 + 1) (by first | assumption | omega) (by first | assumption | omega) (by omega))
                exact J_sub (L' := [some (.ref 19), some (.int (nI k1)), some (.int z2), some (.int v11), some (.int (nI 0)), some (.int (nI 0))]) ⟨rfl, ⟨rfl, ⟨rfl, ⟨rfl, ⟨rfl, ⟨rfl, trivial⟩⟩⟩⟩⟩⟩ (lp95_108 _ 0 0 (by first | assumption | omega) (by first | assumption | omega) (Nat.lt_succ_self _))
              · refine J_iload_n (pc := 72) dX8_isSoundNow_72 rfl rfl ?_
                refine J_iconst (pc := 73) (v := nI 1) dX8_isSoundNow_73 (by decide) ?_
                refine J_aload_n (pc := 74) dX8_isSoundNow_74 rfl rfl rfl ?_
                refine J_get (pc := 75) (k := 6) dX8_isSoundNow_75 kC9 (by decide) ff_X8_85 h19_11 rfl ?_
                refine J_callS0 (pc := 78) (as := [.int en1]) dX8_isSoundNow_78 fw_J6_bitCount_0f7a4 fl_X8_96 fs_J6_bitCount_0f7a4 rfl (c_J6_bitCount_0f7a4 hs (d := d - 1) (Nat.le_trans (by decide) hdm) (w := w11) en1 (kc := 0) (ks := 0)) hdp (st := [.int (nI 1), .int (nI k1)]) (Nat.le_of_ble_eq_true rfl) rfl (kr_P fun v128 hv128 => ?_) kx_I
                obtain ⟨k128, rfl, hk128⟩ := hv128
                refine J_ishl (pc := 81) dX8_isSoundNow_81 (J_absI fun x129 => ?_)
                refine J_icmp_ltI (pc := 82) (tgt := 89) dX8_isSoundNow_82 (by decide) (by omega) (fun ht130 => ?_) (fun hf131 => ?_)
                · refine J_iconst (pc := 89) (v := nI 0) dX8_isSoundNow_89 (by decide) ?_
                  refine J_istore (pc := 90) dX8_isSoundNow_90 (by decide) rfl ?_
                  show J X mX8_isSoundNow d (kc - 13) (ks - 2054) 92 [some (.ref 19), some (.int (nI k1)), some (.int z2), some (.int v11), some (.int (nI 0)), none] [] w11 _
                  refine J_iconst (pc := 92) (v := nI 0) dX8_isSoundNow_92 (by decide) ?_
                  refine J_istore (pc := 93) dX8_isSoundNow_93 (by decide) rfl ?_
                  show J X mX8_isSoundNow d (kc - 13) (ks - 2054) 95 [some (.ref 19), some (.int (nI k1)), some (.int z2), some (.int v11), some (.int (nI 0)), some (.int (nI 0))] [] w11 _
                  have lp95_132 : ∀ (fuel : Nat) (y4 : Nat) (c5 : Nat), (y4 < 2) → (c5 ≤ 6) → (6 - c5 < fuel) → J X mX8_isSoundNow d (kc - 13) (ks - 2054) 95 [some (.ref 19), some (.int (nI k1)), some (.int z2), some (.int v11), some (.int (nI y4)), some (.int (nI c5))] [] w11 (pI (fun v => ∃ k : Nat, v = nI k ∧ k < 2) (fun w' => ∃ (rw' : Nat → Nat), ∃ (nx' : Nat → Nat), ∃ (b' : Nat), ∃ (bt' : List Int32), ∃ (kn' : Int32), ∃ (en' : Int32), RM n mv rw' nx' b' bt' kn' en' dn rf kk th w' ∧ FR b b' w w' ∧ (∀ i, rw' i < 7) ∧ (∀ i, nx' i < 7) ∧ KB n kn' bt')) := by
                    intro fuellp95_132
                    induction fuellp95_132 with
                    | zero => intros; omega
                    | succ fuellp95_132 ihlp95_132 =>
                      intro y4 c5 hv95_0 hv95_1 hf133
                      refine J_iload (pc := 95) dX8_isSoundNow_95 rfl ?_
                      refine J_bipush (pc := 97) (v := nI 6) dX8_isSoundNow_97 (by decide) ?_
                      refine J_icmp_geN (pc := 99) (tgt := 149) dX8_isSoundNow_99 (by decide) (by omega) (by omega) (fun ht134 => ?_) (fun hf135 => ?_)
                      · refine J_iload (pc := 149) dX8_isSoundNow_149 rfl ?_
                        refine J_if_eqN (pc := 151) (tgt := 175) dX8_isSoundNow_151 (by decide) (by omega) (fun ht136 => ?_) (fun hf137 => ?_)
                        · refine J_iconst (pc := 175) (v := nI 0) dX8_isSoundNow_175 (by decide) ?_
                          exact J_zret (pc := 176) dX8_isSoundNow_176 rfl (nar_b (by first | decide | omega)) ⟨⟨0, rfl, by omega⟩, ⟨rw11, nx1, b1, bt1, kn1, en1, ⟨h19_11, h20_11, h21_11, h22_11, hbb_11, hbl_11, hb3_11⟩, hF11, hgrw11, hgnx1, (by first | assumption | exact Or.inr (by assumption))⟩⟩
                        · refine J_aload_n (pc := 154) dX8_isSoundNow_154 rfl rfl rfl ?_
                          refine J_bipush (pc := 155) (v := nI 63) dX8_isSoundNow_155 (by decide) ?_
                          refine J_iconst (pc := 157) (v := nI 2) dX8_isSoundNow_157 (by decide) ?_
                          refine J_callV0 (pc := 158) (as := [.int (nI 63), .int (nI 2)]) dX8_isSoundNow_158 fw_X8_byThoseThatStay fl_X8_197 fm_X8_byThoseThatStay fe_X8_byThoseThatStay h19_11 (by decide) rfl rfl rfl (c_X8_byThoseThatStay_atk hs (d := d - 1) (Nat.le_trans (by decide) hdm) (w := w11) (n := n) (mv := mv) (rw := rw11) (nx := nx1) (b := b1) (bt := bt1) (kn := kn1) (en := en1) (dn := dn) (rf := rf) (kk := kk) (th := th) ⟨h19_11, h20_11, h21_11, h22_11, hbb_11, hbl_11, hb3_11⟩ hn1 hn2 gm hgrw11 hgnx1 63 (nI 2) (by first | assumption | omega) (by first | assumption | omega) (by first | assumption | omega) (by first | assumption | omega) (kc := 0) (ks := 0)) hdp (st := []) (Nat.le_of_ble_eq_true rfl) rfl (kr_I fun v138 w138 hv138 hw138 => ?_) kx_I
                          obtain ⟨rw138, hR138, hFc138, hgrw138⟩ := hw138
                          obtain ⟨h19_138, h20_138, h21_138, h22_138, hbb_138, hbl_138, hb3_138⟩ := hR138
                          have hF138 := hF11.tr hFc138
                          refine J_aload_n (pc := 161) dX8_isSoundNow_161 rfl rfl rfl ?_
                          refine J_bipush (pc := 162) (v := nI 63) dX8_isSoundNow_162 (by decide) ?_
                          refine J_iconst (pc := 164) (v := nI 2) dX8_isSoundNow_164 (by decide) ?_
                          refine J_callV (pc := 165) (as := [.int (nI 63), .int (nI 2)]) dX8_isSoundNow_165 fw_X8_oneByOne fl_X8_200 fm_X8_oneByOne fe_X8_oneByOne h19_138 (by decide) rfl rfl rfl (c_X8_oneByOne hs (d := d - 1) (Nat.le_trans (by decide) hdm) (w := w138) (n := n) (mv := mv) (rw := rw138) (nx := nx1) (b := b1) (bt := bt1) (kn := kn1) (en := en1) (dn := dn) (rf := rf) (kk := kk) (th := th) ⟨h19_138, h20_138, h21_138, h22_138, hbb_138, hbl_138, hb3_138⟩ hn1 hn2 gm hgrw138 hgnx1 63 2 (by first | assumption | omega) (by first | assumption | omega) (by first | assumption | omega) (by first | assumption | omega) (kc := 2) (ks := 4374) (Nat.le_refl _) (Nat.le_refl _)) hdp (by omega) (by omega) (st := [.int v138]) (Nat.le_of_ble_eq_true rfl) rfl (kr_I fun v139 w139 hv139 hw139 => ?_) kx_I
                          obtain ⟨nx139, hR139, hFc139, hgnx139⟩ := hw139
                          obtain ⟨h19_139, h20_139, h21_139, h22_139, hbb_139, hbl_139, hb3_139⟩ := hR139
                          have hF139 := hF138.tr hFc139
                          refine J_icmp_ne (pc := 168) (tgt := 175) dX8_isSoundNow_168 (by decide) (fun ht140 => ?_) (fun hf141 => ?_)
                          · refine J_iconst (pc := 175) (v := nI 0) dX8_isSoundNow_175 (by decide) ?_
                            exact J_zret (pc := 176) dX8_isSoundNow_176 rfl (nar_b (by first | decide | omega)) ⟨⟨0, rfl, by omega⟩, ⟨rw138, nx139, b1, bt1, kn1, en1, ⟨h19_139, h20_139, h21_139, h22_139, hbb_139, hbl_139, hb3_139⟩, hF139, hgrw138, hgnx139, (by first | assumption | exact Or.inr (by assumption))⟩⟩
                          · refine J_iconst (pc := 171) (v := nI 1) dX8_isSoundNow_171 (by decide) ?_
                            refine J_goto (pc := 172) (tgt := 176) dX8_isSoundNow_172 (by decide) ?_
                            exact J_zret (pc := 176) dX8_isSoundNow_176 rfl (nar_b (by first | decide | omega)) ⟨⟨1, rfl, by omega⟩, ⟨rw138, nx139, b1, bt1, kn1, en1, ⟨h19_139, h20_139, h21_139, h22_139, hbb_139, hbl_139, hb3_139⟩, hF139, hgrw138, hgnx139, (by first | assumption | exact Or.inr (by assumption))⟩⟩
                      · refine J_iload (pc := 102) dX8_isSoundNow_102 rfl ?_
                        refine J_if_eqN (pc := 104) (tgt := 140) dX8_isSoundNow_104 (by decide) (by omega) (fun ht142 => ?_) (fun hf143 => ?_)
                        · refine J_iconst (pc := 140) (v := nI 0) dX8_isSoundNow_140 (by decide) ?_
                          refine J_istore (pc := 141) dX8_isSoundNow_141 (by decide) rfl ?_
                          show J X mX8_isSoundNow d (kc - 13) (ks - 2054) 143 [some (.ref 19), some (.int (nI k1)), some (.int z2), some (.int v11), some (.int (nI 0)), some (.int (nI c5))] [] w11 _
                          refine J_iincN (pc := 143) (b := 1) dX8_isSoundNow_143 rfl (by decide) (by decide) rfl ?_
                          show J X mX8_isSoundNow d (kc - 13) (ks - 2054) 146 [some (.ref 19), some (.int (nI k1)), some (.int z2), some (.int v11), some (.int (nI 0)), some (.int (nI (c5 + 1)))] [] w11 _
                          refine J_goto (pc := 146) (tgt := 95) dX8_isSoundNow_146 (by decide) ?_
                          exact J_sub (L' := [some (.ref 19), some (.int (nI k1)), some (.int z2), some (.int v11), some (.int (nI 0)), some (.int (nI (c5 + 1)))]) ⟨rfl, ⟨rfl, ⟨rfl, ⟨rfl, ⟨rfl, ⟨rfl, trivial⟩⟩⟩⟩⟩⟩ (ihlp95_132 0 (c5 + 1) (by first | assumption | omega) (by first | assumption | omega) (by omega))
                        · refine J_aload_n (pc := 107) dX8_isSoundNow_107 rfl rfl rfl ?_
                          refine J_bipush (pc := 108) (v := nI 63) dX8_isSoundNow_108 (by decide) ?_
                          refine J_iload (pc := 110) dX8_isSoundNow_110 rfl ?_
                          refine J_callV0 (pc := 112) (as := [.int (nI 63), .int (nI c5)]) dX8_isSoundNow_112 fw_X8_isInNow fl_X8_185 fm_X8_isInNow fe_X8_isInNow h19_11 (by decide) rfl rfl rfl (c_X8_isInNow_atk hs (d := d - 1) (Nat.le_trans (by decide) hdm) (w := w11) (n := n) (mv := mv) (rw := rw11) (nx := nx1) (b := b1) (bt := bt1) (kn := kn1) (en := en1) (dn := dn) (rf := rf) (kk := kk) (th := th) ⟨h19_11, h20_11, h21_11, h22_11, hbb_11, hbl_11, hb3_11⟩ hn1 hn2 gm hgrw11 hgnx1 63 c5 (by first | assumption | omega) (by first | assumption | omega) (by first | assumption | omega) (by first | assumption | omega) (by first | assumption | omega) (kc := 0) (ks := 0)) hdp (st := []) (Nat.le_of_ble_eq_true rfl) rfl (kr_I fun v144 w144 hv144 hw144 => ?_) kx_I
                          obtain ⟨hR144, hFc144⟩ := hw144
                          obtain ⟨h19_144, h20_144, h21_144, h22_144, hbb_144, hbl_144, hb3_144⟩ := hR144
                          have hF144 := hF11.tr hFc144
                          obtain ⟨k144, rfl, hk144⟩ := hv144
                          refine J_if_eqN (pc := 115) (tgt := 140) dX8_isSoundNow_115 (by decide) (by omega) (fun ht145 => ?_) (fun hf146 => ?_)
                          · refine J_iconst (pc := 140) (v := nI 0) dX8_isSoundNow_140 (by decide) ?_
                            refine J_istore (pc := 141) dX8_isSoundNow_141 (by decide) rfl ?_
                            show J X mX8_isSoundNow d (kc - 13) (ks - 2054) 143 [some (.ref 19), some (.int (nI k1)), some (.int z2), some (.int v11), some (.int (nI 0)), some (.int (nI c5))] [] w144 _
                            refine J_iincN (pc := 143) (b := 1) dX8_isSoundNow_143 rfl (by decide) (by decide) rfl ?_
                            show J X mX8_isSoundNow d (kc - 13) (ks - 2054) 146 [some (.ref 19), some (.int (nI k1)), some (.int z2), some (.int v11), some (.int (nI 0)), some (.int (nI (c5 + 1)))] [] w144 _
                            refine J_goto (pc := 146) (tgt := 95) dX8_isSoundNow_146 (by decide) ?_
                            exact J_sub (L' := [some (.ref 19), some (.int (nI k1)), some (.int z2), some (.int v11), some (.int (nI 0)), some (.int (nI (c5 + 1)))]) ⟨rfl, ⟨rfl, ⟨rfl, ⟨rfl, ⟨rfl, ⟨rfl, trivial⟩⟩⟩⟩⟩⟩ (ihlp95_132 0 (c5 + 1) (by first | assumption | omega) (by first | assumption | omega) (by omega))
                          · refine J_iload_n (pc := 118) dX8_isSoundNow_118 rfl rfl ?_
                            refine J_aload_n (pc := 119) dX8_isSoundNow_119 rfl rfl rfl ?_
                            refine J_aload_n (pc := 120) dX8_isSoundNow_120 rfl rfl rfl ?_
                            refine J_get (pc := 121) (k := 1) dX8_isSoundNow_121 kC9 (by decide) ff_X8_13 h19_144 rfl ?_
                            refine J_iload (pc := 124) dX8_isSoundNow_124 rfl ?_
                            refine J_bipush (pc := 126) (v := nI 7) dX8_isSoundNow_126 (by decide) ?_
                            refine J_imulN (pc := 128) dX8_isSoundNow_128 ?_
                            refine J_callV0 (pc := 129) (as := [.ref 20, .int (nI (c5 * 7))]) dX8_isSoundNow_129 fw_X8_orderOf fl_X8_172 fm_X8_orderOf fe_X8_orderOf h19_144 (by decide) rfl rfl rfl (c_X8_orderOf_at20 hs (d := d - 1) (Nat.le_trans (by decide) hdm) (w := w144) (n := n) (mv := mv) (rw := rw11) (nx := nx1) (b := b1) (bt := bt1) (kn := kn1) (en := en1) (dn := dn) (rf := rf) (kk := kk) (th := th) ⟨h19_144, h20_144, h21_144, h22_144, hbb_144, hbl_144, hb3_144⟩ hn1 hn2 gm hgrw11 hgnx1 (c5 * 7) (by first | assumption | omega) (by exact hy0 c5 (by omega)) (kc := 0) (ks := 0)) hdp (st := [.int (nI k1)]) (Nat.le_of_ble_eq_true rfl) rfl (kr_P fun v147 hv147 => ?_) kx_I
                            obtain ⟨k147, rfl, hk147⟩ := hv147
                            have hm148 := Nat.mod_lt k1 (show 0 < k147 by omega)
                            have hm149 := Nat.div_le_self k1 k147
                            refine J_iremN (pc := 132) dX8_isSoundNow_132 (by omega) (by omega) (by omega) ?_
                            refine J_if_neN (pc := 133) (tgt := 140) dX8_isSoundNow_133 (by decide) (by omega) (fun ht150 => ?_) (fun hf151 => ?_)
                            · refine J_iconst (pc := 140) (v := nI 0) dX8_isSoundNow_140 (by decide) ?_
                              refine J_istore (pc := 141) dX8_isSoundNow_141 (by decide) rfl ?_
                              show J X mX8_isSoundNow d (kc - 13) (ks - 2054) 143 [some (.ref 19), some (.int (nI k1)), some (.int z2), some (.int v11), some (.int (nI 0)), some (.int (nI c5))] [] w144 _
                              refine J_iincN (pc := 143) (b := 1) dX8_isSoundNow_143 rfl (by decide) (by decide) rfl ?_
                              show J X mX8_isSoundNow d (kc - 13) (ks - 2054) 146 [some (.ref 19), some (.int (nI k1)), some (.int z2), some (.int v11), some (.int (nI 0)), some (.int (nI (c5 + 1)))] [] w144 _
                              refine J_goto (pc := 146) (tgt := 95) dX8_isSoundNow_146 (by decide) ?_
                              exact J_sub (L' := [some (.ref 19), some (.int (nI k1)), some (.int z2), some (.int v11), some (.int (nI 0)), some (.int (nI (c5 + 1)))]) ⟨rfl, ⟨rfl, ⟨rfl, ⟨rfl, ⟨rfl, ⟨rfl, trivial⟩⟩⟩⟩⟩⟩ (ihlp95_132 0 (c5 + 1) (by first | assumption | omega) (by first | assumption | omega) (by omega))
                            · refine J_iconst (pc := 136) (v := nI 1) dX8_isSoundNow_136 (by decide) ?_
                              refine J_goto (pc := 137) (tgt := 141) dX8_isSoundNow_137 (by decide) ?_
                              refine J_istore (pc := 141) dX8_isSoundNow_141 (by decide) rfl ?_
                              show J X mX8_isSoundNow d (kc - 13) (ks - 2054) 143 [some (.ref 19), some (.int (nI k1)), some (.int z2), some (.int v11), some (.int (nI 1)), some (.int (nI c5))] [] w144 _
                              refine J_iincN (pc := 143) (b := 1) dX8_isSoundNow_143 rfl (by decide) (by decide) rfl ?_
                              show J X mX8_isSoundNow d (kc - 13) (ks - 2054) 146 [some (.ref 19), some (.int (nI k1)), some (.int z2), some (.int v11), some (.int (nI 1)), some (.int (nI (c5 + 1)))] [] w144 _
                              refine J_goto (pc := 146) (tgt := 95) dX8_isSoundNow_146 (by decide) ?_
                              exact J_sub (L' := [some (.ref 19), some (.int (nI k1)), some (.int z2), some (.int v11), some (.int (nI 1)), some (.int (nI (c5 + 1)))]) ⟨rfl, ⟨rfl, ⟨rfl, ⟨rfl, ⟨rfl, ⟨rfl, trivial⟩⟩⟩⟩⟩⟩ (ihlp95_132 1 (c5 + 1) (by first | assumption | omega) (by first | assumption | omega) (by omega))
                  exact J_sub (L' := [some (.ref 19), some (.int (nI k1)), some (.int z2), some (.int v11), some (.int (nI 0)), some (.int (nI 0))]) ⟨rfl, ⟨rfl, ⟨rfl, ⟨rfl, ⟨rfl, ⟨rfl, trivial⟩⟩⟩⟩⟩⟩ (lp95_132 _ 0 0 (by first | assumption | omega) (by first | assumption | omega) (Nat.lt_succ_self _))
                · refine J_iconst (pc := 85) (v := nI 1) dX8_isSoundNow_85 (by decide) ?_
                  refine J_goto (pc := 86) (tgt := 90) dX8_isSoundNow_86 (by decide) ?_
                  refine J_istore (pc := 90) dX8_isSoundNow_90 (by decide) rfl ?_
                  show J X mX8_isSoundNow d (kc - 13) (ks - 2054) 92 [some (.ref 19), some (.int (nI k1)), some (.int z2), some (.int v11), some (.int (nI 1)), none] [] w11 _
                  refine J_iconst (pc := 92) (v := nI 0) dX8_isSoundNow_92 (by decide) ?_
                  refine J_istore (pc := 93) dX8_isSoundNow_93 (by decide) rfl ?_
                  show J X mX8_isSoundNow d (kc - 13) (ks - 2054) 95 [some (.ref 19), some (.int (nI k1)), some (.int z2), some (.int v11), some (.int (nI 1)), some (.int (nI 0))] [] w11 _
                  have lp95_152 : ∀ (fuel : Nat) (y4 : Nat) (c5 : Nat), (y4 < 2) → (c5 ≤ 6) → (6 - c5 < fuel) → J X mX8_isSoundNow d (kc - 13) (ks - 2054) 95 [some (.ref 19), some (.int (nI k1)), some (.int z2), some (.int v11), some (.int (nI y4)), some (.int (nI c5))] [] w11 (pI (fun v => ∃ k : Nat, v = nI k ∧ k < 2) (fun w' => ∃ (rw' : Nat → Nat), ∃ (nx' : Nat → Nat), ∃ (b' : Nat), ∃ (bt' : List Int32), ∃ (kn' : Int32), ∃ (en' : Int32), RM n mv rw' nx' b' bt' kn' en' dn rf kk th w' ∧ FR b b' w w' ∧ (∀ i, rw' i < 7) ∧ (∀ i, nx' i < 7) ∧ KB n kn' bt')) := by
                    intro fuellp95_152
                    induction fuellp95_152 with
                    | zero => intros; omega
                    | succ fuellp95_152 ihlp95_152 =>
                      intro y4 c5 hv95_0 hv95_1 hf153
                      refine J_iload (pc := 95) dX8_isSoundNow_95 rfl ?_
                      refine J_bipush (pc := 97) (v := nI 6) dX8_isSoundNow_97 (by decide) ?_
                      refine J_icmp_geN (pc := 99) (tgt := 149) dX8_isSoundNow_99 (by decide) (by omega) (by omega) (fun ht154 => ?_) (fun hf155 => ?_)
                      · refine J_iload (pc := 149) dX8_isSoundNow_149 rfl ?_
                        refine J_if_eqN (pc := 151) (tgt := 175) dX8_isSoundNow_151 (by decide) (by omega) (fun ht156 => ?_) (fun hf157 => ?_)
                        · refine J_iconst (pc := 175) (v := nI 0) dX8_isSoundNow_175 (by decide) ?_
                          exact J_zret (pc := 176) dX8_isSoundNow_176 rfl (nar_b (by first | decide | omega)) ⟨⟨0, rfl, by omega⟩, ⟨rw11, nx1, b1, bt1, kn1, en1, ⟨h19_11, h20_11, h21_11, h22_11, hbb_11, hbl_11, hb3_11⟩, hF11, hgrw11, hgnx1, (by first | assumption | exact Or.inr (by assumption))⟩⟩
                        · refine J_aload_n (pc := 154) dX8_isSoundNow_154 rfl rfl rfl ?_
                          refine J_bipush (pc := 155) (v := nI 63) dX8_isSoundNow_155 (by decide) ?_
                          refine J_iconst (pc := 157) (v := nI 2) dX8_isSoundNow_157 (by decide) ?_
                          refine J_callV0 (pc := 158) (as := [.int (nI 63), .int (nI 2)]) dX8_isSoundNow_158 fw_X8_byThoseThatStay fl_X8_197 fm_X8_byThoseThatStay fe_X8_byThoseThatStay h19_11 (by decide) rfl rfl rfl (c_X8_byThoseThatStay_atk hs (d := d - 1) (Nat.le_trans (by decide) hdm) (w := w11) (n := n) (mv := mv) (rw := rw11) (nx := nx1) (b := b1) (bt := bt1) (kn := kn1) (en := en1) (dn := dn) (rf := rf) (kk := kk) (th := th) ⟨h19_11, h20_11, h21_11, h22_11, hbb_11, hbl_11, hb3_11⟩ hn1 hn2 gm hgrw11 hgnx1 63 (nI 2) (by first | assumption | omega) (by first | assumption | omega) (by first | assumption | omega) (by first | assumption | omega) (kc := 0) (ks := 0)) hdp (st := []) (Nat.le_of_ble_eq_true rfl) rfl (kr_I fun v158 w158 hv158 hw158 => ?_) kx_I
                          obtain ⟨rw158, hR158, hFc158, hgrw158⟩ := hw158
                          obtain ⟨h19_158, h20_158, h21_158, h22_158, hbb_158, hbl_158, hb3_158⟩ := hR158
                          have hF158 := hF11.tr hFc158
                          refine J_aload_n (pc := 161) dX8_isSoundNow_161 rfl rfl rfl ?_
                          refine J_bipush (pc := 162) (v := nI 63) dX8_isSoundNow_162 (by decide) ?_
                          refine J_iconst (pc := 164) (v := nI 2) dX8_isSoundNow_164 (by decide) ?_
                          refine J_callV (pc := 165) (as := [.int (nI 63), .int (nI 2)]) dX8_isSoundNow_165 fw_X8_oneByOne fl_X8_200 fm_X8_oneByOne fe_X8_oneByOne h19_158 (by decide) rfl rfl rfl (c_X8_oneByOne hs (d := d - 1) (Nat.le_trans (by decide) hdm) (w := w158) (n := n) (mv := mv) (rw := rw158) (nx := nx1) (b := b1) (bt := bt1) (kn := kn1) (en := en1) (dn := dn) (rf := rf) (kk := kk) (th := th) ⟨h19_158, h20_158, h21_158, h22_158, hbb_158, hbl_158, hb3_158⟩ hn1 hn2 gm hgrw158 hgnx1 63 2 (by first | assumption | omega) (by first | assumption | omega) (by first | assumption | omega) (by first | assumption | omega) (kc := 2) (ks := 4374) (Nat.le_refl _) (Nat.le_refl _)) hdp (by omega) (by omega) (st := [.int v158]) (Nat.le_of_ble_eq_true rfl) rfl (kr_I fun v159 w159 hv159 hw159 => ?_) kx_I
                          obtain ⟨nx159, hR159, hFc159, hgnx159⟩ := hw159
                          obtain ⟨h19_159, h20_159, h21_159, h22_159, hbb_159, hbl_159, hb3_159⟩ := hR159
                          have hF159 := hF158.tr hFc159
                          refine J_icmp_ne (pc := 168) (tgt := 175) dX8_isSoundNow_168 (by decide) (fun ht160 => ?_) (fun hf161 => ?_)
                          · refine J_iconst (pc := 175) (v := nI 0) dX8_isSoundNow_175 (by decide) ?_
                            exact J_zret (pc := 176) dX8_isSoundNow_176 rfl (nar_b (by first | decide | omega)) ⟨⟨0, rfl, by omega⟩, ⟨rw158, nx159, b1, bt1, kn1, en1, ⟨h19_159, h20_159, h21_159, h22_159, hbb_159, hbl_159, hb3_159⟩, hF159, hgrw158, hgnx159, (by first | assumption | exact Or.inr (by assumption))⟩⟩
                          · refine J_iconst (pc := 171) (v := nI 1) dX8_isSoundNow_171 (by decide) ?_
                            refine J_goto (pc := 172) (tgt := 176) dX8_isSoundNow_172 (by decide) ?_
                            exact J_zret (pc := 176) dX8_isSoundNow_176 rfl (nar_b (by first | decide | omega)) ⟨⟨1, rfl, by omega⟩, ⟨rw158, nx159, b1, bt1, kn1, en1, ⟨h19_159, h20_159, h21_159, h22_159, hbb_159, hbl_159, hb3_159⟩, hF159, hgrw158, hgnx159, (by first | assumption | exact Or.inr (by assumption))⟩⟩
                      · refine J_iload (pc := 102) dX8_isSoundNow_102 rfl ?_
                        refine J_if_eqN (pc := 104) (tgt := 140) dX8_isSoundNow_104 (by decide) (by omega) (fun ht162 => ?_) (fun hf163 => ?_)
                        · refine J_iconst (pc := 140) (v := nI 0) dX8_isSoundNow_140 (by decide) ?_
                          refine J_istore (pc := 141) dX8_isSoundNow_141 (by decide) rfl ?_
                          show J X mX8_isSoundNow d (kc - 13) (ks - 2054) 143 [some (.ref 19), some (.int (nI k1)), some (.int z2), some (.int v11), some (.int (nI 0)), some (.int (nI c5))] [] w11 _
                          refine J_iincN (pc := 143) (b := 1) dX8_isSoundNow_143 rfl (by decide) (by decide) rfl ?_
                          show J X mX8_isSoundNow d (kc - 13) (ks - 2054) 146 [some (.ref 19), some (.int (nI k1)), some (.int z2), some (.int v11), some (.int (nI 0)), some (.int (nI (c5 + 1)))] [] w11 _
                          refine J_goto (pc := 146) (tgt := 95) dX8_isSoundNow_146 (by decide) ?_
                          exact J_sub (L' := [some (.ref 19), some (.int (nI k1)), some (.int z2), some (.int v11), some (.int (nI 0)), some (.int (nI (c5 + 1)))]) ⟨rfl, ⟨rfl, ⟨rfl, ⟨rfl, ⟨rfl, ⟨rfl, trivial⟩⟩⟩⟩⟩⟩ (ihlp95_152 0 (c5 + 1) (by first | assumption | omega) (by first | assumption | omega) (by omega))
                        · refine J_aload_n (pc := 107) dX8_isSoundNow_107 rfl rfl rfl ?_
                          refine J_bipush (pc := 108) (v := nI 63) dX8_isSoundNow_108 (by decide) ?_
                          refine J_iload (pc := 110) dX8_isSoundNow_110 rfl ?_
                          refine J_callV0 (pc := 112) (as := [.int (nI 63), .int (nI c5)]) dX8_isSoundNow_112 fw_X8_isInNow fl_X8_185 fm_X8_isInNow fe_X8_isInNow h19_11 (by decide) rfl rfl rfl (c_X8_isInNow_atk hs (d := d - 1) (Nat.le_trans (by decide) hdm) (w := w11) (n := n) (mv := mv) (rw := rw11) (nx := nx1) (b := b1) (bt := bt1) (kn := kn1) (en := en1) (dn := dn) (rf := rf) (kk := kk) (th := th) ⟨h19_11, h20_11, h21_11, h22_11, hbb_11, hbl_11, hb3_11⟩ hn1 hn2 gm hgrw11 hgnx1 63 c5 (by first | assumption | omega) (by first | assumption | omega) (by first | assumption | omega) (by first | assumption | omega) (by first | assumption | omega) (kc := 0) (ks := 0)) hdp (st := []) (Nat.le_of_ble_eq_true rfl) rfl (kr_I fun v164 w164 hv164 hw164 => ?_) kx_I
                          obtain ⟨hR164, hFc164⟩ := hw164
                          obtain ⟨h19_164, h20_164, h21_164, h22_164, hbb_164, hbl_164, hb3_164⟩ := hR164
                          have hF164 := hF11.tr hFc164
                          obtain ⟨k164, rfl, hk164⟩ := hv164
                          refine J_if_eqN (pc := 115) (tgt := 140) dX8_isSoundNow_115 (by decide) (by omega) (fun ht165 => ?_) (fun hf166 => ?_)
                          · refine J_iconst (pc := 140) (v := nI 0) dX8_isSoundNow_140 (by decide) ?_
                            refine J_istore (pc := 141) dX8_isSoundNow_141 (by decide) rfl ?_
                            show J X mX8_isSoundNow d (kc - 13) (ks - 2054) 143 [some (.ref 19), some (.int (nI k1)), some (.int z2), some (.int v11), some (.int (nI 0)), some (.int (nI c5))] [] w164 _
                            refine J_iincN (pc := 143) (b := 1) dX8_isSoundNow_143 rfl (by decide) (by decide) rfl ?_
                            show J X mX8_isSoundNow d (kc - 13) (ks - 2054) 146 [some (.ref 19), some (.int (nI k1)), some (.int z2), some (.int v11), some (.int (nI 0)), some (.int (nI (c5 + 1)))] [] w164 _
                            refine J_goto (pc := 146) (tgt := 95) dX8_isSoundNow_146 (by decide) ?_
                            exact J_sub (L' := [some (.ref 19), some (.int (nI k1)), some (.int z2), some (.int v11), some (.int (nI 0)), some (.int (nI (c5 + 1)))]) ⟨rfl, ⟨rfl, ⟨rfl, ⟨rfl, ⟨rfl, ⟨rfl, trivial⟩⟩⟩⟩⟩⟩ (ihlp95_152 0 (c5 + 1) (by first | assumption | omega) (by first | assumption | omega) (by omega))
                          · refine J_iload_n (pc := 118) dX8_isSoundNow_118 rfl rfl ?_
                            refine J_aload_n (pc := 119) dX8_isSoundNow_119 rfl rfl rfl ?_
                            refine J_aload_n (pc := 120) dX8_isSoundNow_120 rfl rfl rfl ?_
                            refine J_get (pc := 121) (k := 1) dX8_isSoundNow_121 kC9 (by decide) ff_X8_13 h19_164 rfl ?_
                            refine J_iload (pc := 124) dX8_isSoundNow_124 rfl ?_
                            refine J_bipush (pc := 126) (v := nI 7) dX8_isSoundNow_126 (by decide) ?_
                            refine J_imulN (pc := 128) dX8_isSoundNow_128 ?_
                            refine J_callV0 (pc := 129) (as := [.ref 20, .int (nI (c5 * 7))]) dX8_isSoundNow_129 fw_X8_orderOf fl_X8_172 fm_X8_orderOf fe_X8_orderOf h19_164 (by decide) rfl rfl rfl (c_X8_orderOf_at20 hs (d := d - 1) (Nat.le_trans (by decide) hdm) (w := w164) (n := n) (mv := mv) (rw := rw11) (nx := nx1) (b := b1) (bt := bt1) (kn := kn1) (en := en1) (dn := dn) (rf := rf) (kk := kk) (th := th) ⟨h19_164, h20_164, h21_164, h22_164, hbb_164, hbl_164, hb3_164⟩ hn1 hn2 gm hgrw11 hgnx1 (c5 * 7) (by first | assumption | omega) (by exact hy0 c5 (by omega)) (kc := 0) (ks := 0)) hdp (st := [.int (nI k1)]) (Nat.le_of_ble_eq_true rfl) rfl (kr_P fun v167 hv167 => ?_) kx_I
                            obtain ⟨k167, rfl, hk167⟩ := hv167
                            have hm168 := Nat.mod_lt k1 (show 0 < k167 by omega)
                            have hm169 := Nat.div_le_self k1 k167
                            refine J_iremN (pc := 132) dX8_isSoundNow_132 (by omega) (by omega) (by omega) ?_
                            refine J_if_neN (pc := 133) (tgt := 140) dX8_isSoundNow_133 (by decide) (by omega) (fun ht170 => ?_) (fun hf171 => ?_)
                            · refine J_iconst (pc := 140) (v := nI 0) dX8_isSoundNow_140 (by decide) ?_
                              refine J_istore (pc := 141) dX8_isSoundNow_141 (by decide) rfl ?_
                              show J X mX8_isSoundNow d (kc - 13) (ks - 2054) 143 [some (.ref 19), some (.int (nI k1)), some (.int z2), some (.int v11), some (.int (nI 0)), some (.int (nI c5))] [] w164 _
                              refine J_iincN (pc := 143) (b := 1) dX8_isSoundNow_143 rfl (by decide) (by decide) rfl ?_
                              show J X mX8_isSoundNow d (kc - 13) (ks - 2054) 146 [some (.ref 19), some (.int (nI k1)), some (.int z2), some (.int v11), some (.int (nI 0)), some (.int (nI (c5 + 1)))] [] w164 _
                              refine J_goto (pc := 146) (tgt := 95) dX8_isSoundNow_146 (by decide) ?_
                              exact J_sub (L' := [some (.ref 19), some (.int (nI k1)), some (.int z2), some (.int v11), some (.int (nI 0)), some (.int (nI (c5 + 1)))]) ⟨rfl, ⟨rfl, ⟨rfl, ⟨rfl, ⟨rfl, ⟨rfl, trivial⟩⟩⟩⟩⟩⟩ (ihlp95_152 0 (c5 + 1) (by first | assumption | omega) (by first | assumption | omega) (by omega))
                            · refine J_iconst (pc := 136) (v := nI 1) dX8_isSoundNow_136 (by decide) ?_
                              refine J_goto (pc := 137) (tgt := 141) dX8_isSoundNow_137 (by decide) ?_
                              refine J_istore (pc := 141) dX8_isSoundNow_141 (by decide) rfl ?_
                              show J X mX8_isSoundNow d (kc - 13) (ks - 2054) 143 [some (.ref 19), some (.int (nI k1)), some (.int z2), some (.int v11), some (.int (nI 1)), some (.int (nI c5))] [] w164 _
                              refine J_iincN (pc := 143) (b := 1) dX8_isSoundNow_143 rfl (by decide) (by decide) rfl ?_
                              show J X mX8_isSoundNow d (kc - 13) (ks - 2054) 146 [some (.ref 19), some (.int (nI k1)), some (.int z2), some (.int v11), some (.int (nI 1)), some (.int (nI (c5 + 1)))] [] w164 _
                              refine J_goto (pc := 146) (tgt := 95) dX8_isSoundNow_146 (by decide) ?_
                              exact J_sub (L' := [some (.ref 19), some (.int (nI k1)), some (.int z2), some (.int v11), some (.int (nI 1)), some (.int (nI (c5 + 1)))]) ⟨rfl, ⟨rfl, ⟨rfl, ⟨rfl, ⟨rfl, ⟨rfl, trivial⟩⟩⟩⟩⟩⟩ (ihlp95_152 1 (c5 + 1) (by first | assumption | omega) (by first | assumption | omega) (by omega))
                  exact J_sub (L' := [some (.ref 19), some (.int (nI k1)), some (.int z2), some (.int v11), some (.int (nI 1)), some (.int (nI 0))]) ⟨rfl, ⟨rfl, ⟨rfl, ⟨rfl, ⟨rfl, ⟨rfl, trivial⟩⟩⟩⟩⟩⟩ (lp95_152 _ 1 0 (by first | assumption | omega) (by first | assumption | omega) (Nat.lt_succ_self _))
      · refine J_iload_n (pc := 19) dX8_isSoundNow_19 rfl rfl ?_
        refine J_aload_n (pc := 20) dX8_isSoundNow_20 rfl rfl rfl ?_
        refine J_bipush (pc := 21) (v := nI 63) dX8_isSoundNow_21 (by decide) ?_
        refine J_iconst (pc := 23) (v := nI 0) dX8_isSoundNow_23 (by decide) ?_
        refine J_iload_n (pc := 24) dX8_isSoundNow_24 rfl rfl ?_
        refine J_callV0 (pc := 25) (as := [.int (nI 63), .int (nI 0), .int (nI c3)]) dX8_isSoundNow_25 fw_X8_reachNow fl_X8_181 fm_X8_reachNow fe_X8_reachNow h19_8 (by decide) rfl rfl rfl (c_X8_reachNow_atk hs (d := d - 1) (Nat.le_trans (by decide) hdm) (w := w3) (n := n) (mv := mv) (rw := rw_11) (nx := nx1) (b := b1) (bt := bt1) (kn := kn1) (en := en1) (dn := dn) (rf := rf) (kk := kk) (th := th) ⟨h19_8, h20_8, h21_8, h22_8, hb_8, hbl_8, hb3_8⟩ hn1 hn2 gm gr6 hgnx1 63 0 c3 (by first | assumption | omega) (by first | assumption | omega) (by first | assumption | omega) (by first | assumption | omega) (by first | assumption | omega) (by first | assumption | omega) (kc := 0) (ks := 0)) hdp (st := [.int z2]) (Nat.le_of_ble_eq_true rfl) rfl (kr_I fun v172 w172 hv172 hw172 => ?_) kx_I
        obtain ⟨rw172, hR172, hFc172, hgrw172⟩ := hw172
        obtain ⟨h19_172, h20_172, h21_172, h22_172, hbb_172, hbl_172, hb3_172⟩ := hR172
        have hF172 := hF5.tr hFc172
        refine J_callS0 (pc := 28) (as := [.int v172]) dX8_isSoundNow_28 fw_J6_bitCount_0f7a4 fl_X8_96 fs_J6_bitCount_0f7a4 rfl (c_J6_bitCount_0f7a4 hs (d := d - 1) (Nat.le_trans (by decide) hdm) (w := w172) v172 (kc := 0) (ks := 0)) hdp (st := [.int z2]) (Nat.le_of_ble_eq_true rfl) rfl (kr_P fun v173 hv173 => ?_) kx_I
        obtain ⟨k173, rfl, hk173⟩ := hv173
        refine J_imul (pc := 31) dX8_isSoundNow_31 (J_absI fun x174 => ?_)
        refine J_istore_n (pc := 32) dX8_isSoundNow_32 rfl (by decide) rfl ?_
        show J X mX8_isSoundNow d (kc - 13) (ks - 2054) 33 [some (.ref 19), some (.int (nI k1)), some (.int x174), some (.int (nI c3)), none, none] [] w172 _
        refine J_iincN (pc := 33) (b := 1) dX8_isSoundNow_33 rfl (by decide) (by decide) rfl ?_
        show J X mX8_isSoundNow d (kc - 13) (ks - 2054) 36 [some (.ref 19), some (.int (nI k1)), some (.int x174), some (.int (nI (c3 + 1))), none, none] [] w172 _
        refine J_goto (pc := 36) (tgt := 11) dX8_isSoundNow_36 (by decide) ?_
        exact J_sub (L' := [some (.ref 19), some (.int (nI k1)), some (.int x174), some (.int (nI (c3 + 1))), none, none]) ⟨rfl, ⟨rfl, ⟨rfl, ⟨rfl, trivial⟩⟩⟩⟩ (ihlp11_2 w172 rw172 x174 (c3 + 1) ⟨h19_172, h20_172, h21_172, h22_172, hbb_172, hbl_172, hb3_172⟩ hF172 hgrw172 (by first | assumption | omega) (by omega))
  exact J_sub (L' := [some (.ref 19), some (.int (nI k1)), some (.int (nI 1)), some (.int (nI 0)), none, none]) ⟨rfl, ⟨rfl, ⟨rfl, ⟨rfl, trivial⟩⟩⟩⟩ (lp11_2 _ w1 rw1 (nI 1) 0 ⟨h19_1, h20_1, h21_1, h22_1, hbb_1, hbl_1, hb3_1⟩ hF1 hgrw1 (by first | assumption | omega) (Nat.lt_succ_self _))
