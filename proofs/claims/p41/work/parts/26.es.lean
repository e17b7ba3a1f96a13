/-! contracts of the reference: rspec4 -/
set_option maxRecDepth 100000 in
set_option maxHeartbeats 40000000 in
theorem c_X8_isSoundNow {X : jX} (hs : X.1.stackTraces = false) {d : Nat} (hd : 10 ≤ d) {n : Nat} {mv rw nx : Nat → Nat} {b : Nat} {bt : List Int32} {kn en dn rf kk th : Int32} {w : List jC} (hR : RM n mv rw nx b bt kn en dn rf kk th w) (hn1 : 2 ≤ n) (hn2 : n ≤ 7) (gm : ∀ i, mv i < 7) (gr : ∀ i, rw i < 7) (gx : ∀ i, nx i < 7) (hy0 : PM n mv) (hy1 : KX n mv kn bt) {kc ks : Nat} (hkc : 15 ≤ kc) (hks : 6428 ≤ ks) : jMet X mX8_isSoundNow d kc ks [.ref 19] w (pI (fun v => ∃ k : Nat, v = nI k ∧ k < 2) (fun w' => ∃ (rw' : Nat → Nat), ∃ (nx' : Nat → Nat), ∃ (b' : Nat), ∃ (bt' : List Int32), ∃ (kn' : Int32), ∃ (en' : Int32), RM n mv rw' nx' b' bt' kn' en' dn rf kk th w' ∧ FR b b' w w' ∧ (∀ i, rw' i < 7) ∧ (∀ i, nx' i < 7) ∧ KX n mv kn' bt')) := by
  refine jMet_of hs (by decide +kernel) (Nat.le_of_ble_eq_true rfl) (L := [some (.ref 19), none, none, none, none, none]) rfl ?_
  have hdm : 9 ≤ d - 1 := by omega
  have hdp : d - 1 + 1 ≤ d := by omega
  have hfc := fc_7 hn2
  have hfp := fc_pos n
  obtain ⟨h19, h20, h21, h22, hbb, hbl, hb3⟩ := hR
  have hF : FR b b w w := FR.rf
  refine J_aload_n (pc := 0) dX8_isSoundNow_0 rfl rfl rfl ?_
  refine J_bipush (pc := 1) (v := nI 63) dX8_isSoundNow_1 (by decide) ?_
  refine J_callV (pc := 3) (M := mX8_isSoundNow) (as := [.int (nI 63)]) dX8_isSoundNow_3 fw_X8_sizeOf fl_X8_178 fm_X8_sizeOf fe_X8_sizeOf h19 (by decide) rfl rfl rfl (c_X8_sizeOf hs (d := d - 1) (Nat.le_trans (by decide) hdm) (w := w) (n := n) (mv := mv) (rw := rw) (nx := nx) (b := b) (bt := bt) (kn := kn) (en := en) (dn := dn) (rf := rf) (kk := kk) (th := th) ⟨h19, h20, h21, h22, hbb, hbl, hb3⟩ hn1 hn2 gm gr gx 63 (by first | assumption | omega) (by first | assumption | omega) (by first | assumption | omega) (kc := 13) (ks := 2054) (Nat.le_refl _) (Nat.le_refl _)) hdp (by omega) (by omega) (st := []) (Nat.le_of_ble_eq_true rfl) rfl (kr_I fun v1 w1 hv1 hw1 => ?_) kx_I
  obtain ⟨rw1, nx1, b1, bt1, kn1, en1, hR1, hFc1, hgrw1, hgnx1, hp1_0, hp1_1⟩ := hw1
  obtain ⟨h19_1, h20_1, h21_1, h22_1, hbb_1, hbl_1, hb3_1⟩ := hR1
  have qd1 := hFc1.2.1
  have hF1 := hF.tr hFc1
  obtain ⟨k1, rfl, hk1⟩ := hv1
  have hkn := hp1_0
  have hBT := hp1_1
  refine J_istore_n (pc := 6) dX8_isSoundNow_6 rfl (by decide) rfl ?_
  show J X mX8_isSoundNow d (kc - 13) (ks - 2054) 7 [some (.ref 19), some (.int (nI k1)), none, none, none, none] [] w1 _
  refine J_iconst (pc := 7) (v := nI 1) dX8_isSoundNow_7 (by decide) ?_
  refine J_istore_n (pc := 8) dX8_isSoundNow_8 rfl (by decide) rfl ?_
  show J X mX8_isSoundNow d (kc - 13) (ks - 2054) 9 [some (.ref 19), some (.int (nI k1)), some (.int (nI 1)), none, none, none] [] w1 _
  refine J_iconst (pc := 9) (v := nI 0) dX8_isSoundNow_9 (by decide) ?_
  refine J_istore_n (pc := 10) dX8_isSoundNow_10 rfl (by decide) rfl ?_
  show J X mX8_isSoundNow d (kc - 13) (ks - 2054) 11 [some (.ref 19), some (.int (nI k1)), some (.int (nI 1)), some (.int (nI 0)), none, none] [] w1 _
  have lp11_2 : ∀ (fuel : Nat) (w3 : List jC) (rw_11 : Nat → Nat) (z2 : Int32) (c3 : Nat), (RM n mv rw_11 nx1 b1 bt1 kn1 en1 dn rf kk th w3) → (FR b b1 w w3) → (∀ i, rw_11 i < 7) → (c3 ≤ n) → (n - c3 < fuel) → J X mX8_isSoundNow d (kc - 13) (ks - 2054) 11 [some (.ref 19), some (.int (nI k1)), some (.int z2), some (.int (nI c3)), none, none] [] w3 (pI (fun v => ∃ k : Nat, v = nI k ∧ k < 2) (fun w' => ∃ (rw' : Nat → Nat), ∃ (nx' : Nat → Nat), ∃ (b' : Nat), ∃ (bt' : List Int32), ∃ (kn' : Int32), ∃ (en' : Int32), RM n mv rw' nx' b' bt' kn' en' dn rf kk th w' ∧ FR b b' w w' ∧ (∀ i, rw' i < 7) ∧ (∀ i, nx' i < 7) ∧ KX n mv kn' bt')) := by
    intro fuellp11_2
    induction fuellp11_2 with
    | zero => intros; omega
    | succ fuellp11_2 ihlp11_2 =>
      intro w3 rw_11 z2 c3 hR4 hF5 gr6 hv11_0 hf7
      obtain ⟨h19_8, h20_8, h21_8, h22_8, hb_8, hbl_8, hb3_8⟩ := hR4
      refine J_iload_n (pc := 11) dX8_isSoundNow_11 rfl rfl ?_
      refine J_aload_n (pc := 12) dX8_isSoundNow_12 rfl rfl rfl ?_
      refine J_get (pc := 13) (k := 0) dX8_isSoundNow_13 kC9 (by decide) ff_X8_7 h19_8 rfl ?_
      refine J_icmp_geN (pc := 16) (tgt := 39) dX8_isSoundNow_16 (by decide) (by omega) (by omega) (fun ht9 => ?_) (fun hf10 => ?_)
      · refine J_aload_n (pc := 39) dX8_isSoundNow_39 rfl rfl rfl ?_
        refine J_bipush (pc := 40) (v := nI 63) dX8_isSoundNow_40 (by decide) ?_
        refine J_callV0 (pc := 42) (M := mX8_isSoundNow) (as := [.int (nI 63)]) dX8_isSoundNow_42 fw_X8_evenNow fl_X8_194 fm_X8_evenNow fe_X8_evenNow h19_8 (by decide) rfl rfl rfl (c_X8_evenNow_atk hs (d := d - 1) (Nat.le_trans (by decide) hdm) (w := w3) (n := n) (mv := mv) (rw := rw_11) (nx := nx1) (b := b1) (bt := bt1) (kn := kn1) (en := en1) (dn := dn) (rf := rf) (kk := kk) (th := th) ⟨h19_8, h20_8, h21_8, h22_8, hb_8, hbl_8, hb3_8⟩ hn1 hn2 gm gr6 hgnx1 63 (by first | assumption | omega) (by first | assumption | omega) (by first | assumption | omega) (by first | assumption | omega) (kc := 0) (ks := 0)) hdp (st := []) (Nat.le_of_ble_eq_true rfl) rfl (kr_I fun v11 w11 hv11 hw11 => ?_) kx_I
        obtain ⟨rw11, hR11, hFc11, hgrw11⟩ := hw11
        obtain ⟨h19_11, h20_11, h21_11, h22_11, hbb_11, hbl_11, hb3_11⟩ := hR11
        have hF11 := hF5.tr hFc11
        refine J_istore_n (pc := 45) dX8_isSoundNow_45 rfl (by decide) rfl ?_
        show J X mX8_isSoundNow d (kc - 13) (ks - 2054) 46 [some (.ref 19), some (.int (nI k1)), some (.int z2), some (.int v11), none, none] [] w11 _
        refine J_aload_n (pc := 46) dX8_isSoundNow_46 rfl rfl rfl ?_
        refine J_callV0 (pc := 47) (M := mX8_isSoundNow) (as := []) dX8_isSoundNow_47 fw_X8_all fl_X8_65 fm_X8_all fe_X8_all h19_11 (by decide) rfl rfl rfl (c_X8_all hs (d := d - 1) (Nat.le_trans (by decide) hdm) (w := w11) (n := n) (mv := mv) (rw := rw11) (nx := nx1) (b := b1) (bt := bt1) (kn := kn1) (en := en1) (dn := dn) (rf := rf) (kk := kk) (th := th) ⟨h19_11, h20_11, h21_11, h22_11, hbb_11, hbl_11, hb3_11⟩ hn1 hn2 gm hgrw11 hgnx1  (kc := 0) (ks := 0)) hdp (st := []) (Nat.le_of_ble_eq_true rfl) rfl (kr_P fun v12 hv12 => ?_) kx_I
        subst hv12
        refine J_iload_n (pc := 50) dX8_isSoundNow_50 rfl rfl ?_
        have hm13 := Nat.mod_lt (fc n) (show 0 < k1 by omega)
        have hm14 := Nat.div_le_self (fc n) k1
        refine J_iremN (pc := 51) dX8_isSoundNow_51 (by omega) (by omega) (by omega) ?_
        refine J_if_neN (pc := 52) (tgt := 89) dX8_isSoundNow_52 (by decide) (by omega) (fun ht15 => ?_) (fun hf16 => ?_)
        · refine J_iconst (pc := 89) (v := nI 0) dX8_isSoundNow_89 (by decide) ?_
          refine J_istore (pc := 90) dX8_isSoundNow_90 (by decide) rfl ?_
          show J X mX8_isSoundNow d (kc - 13) (ks - 2054) 92 [some (.ref 19), some (.int (nI k1)), some (.int z2), some (.int v11), some (.int (nI 0)), none] [] w11 _
          refine J_iconst (pc := 92) (v := nI 0) dX8_isSoundNow_92 (by decide) ?_
          refine J_istore (pc := 93) dX8_isSoundNow_93 (by decide) rfl ?_
          show J X mX8_isSoundNow d (kc - 13) (ks - 2054) 95 [some (.ref 19), some (.int (nI k1)), some (.int z2), some (.int v11), some (.int (nI 0)), some (.int (nI 0))] [] w11 _
          have lp95_17 : ∀ (fuel : Nat) (w18 : List jC) (y4 : Nat) (c5 : Nat), (RM n mv rw11 nx1 b1 bt1 kn1 en1 dn rf kk th w18) → (FR b b1 w w18) → (y4 < 2) → (c5 ≤ 6) → (6 - c5 < fuel) → J X mX8_isSoundNow d (kc - 13) (ks - 2054) 95 [some (.ref 19), some (.int (nI k1)), some (.int z2), some (.int v11), some (.int (nI y4)), some (.int (nI c5))] [] w18 (pI (fun v => ∃ k : Nat, v = nI k ∧ k < 2) (fun w' => ∃ (rw' : Nat → Nat), ∃ (nx' : Nat → Nat), ∃ (b' : Nat), ∃ (bt' : List Int32), ∃ (kn' : Int32), ∃ (en' : Int32), RM n mv rw' nx' b' bt' kn' en' dn rf kk th w' ∧ FR b b' w w' ∧ (∀ i, rw' i < 7) ∧ (∀ i, nx' i < 7) ∧ KX n mv kn' bt')) := by
            intro fuellp95_17
            induction fuellp95_17 with
            | zero => intros; omega
            | succ fuellp95_17 ihlp95_17 =>
              intro w18 y4 c5 hR19 hF20 hv95_0 hv95_1 hf21
              obtain ⟨h19_22, h20_22, h21_22, h22_22, hb_22, hbl_22, hb3_22⟩ := hR19
              refine J_iload (pc := 95) dX8_isSoundNow_95 rfl ?_
              refine J_bipush (pc := 97) (v := nI 6) dX8_isSoundNow_97 (by decide) ?_
              refine J_icmp_geN (pc := 99) (tgt := 149) dX8_isSoundNow_99 (by decide) (by omega) (by omega) (fun ht23 => ?_) (fun hf24 => ?_)
              · refine J_iload (pc := 149) dX8_isSoundNow_149 rfl ?_
                refine J_if_eqN (pc := 151) (tgt := 175) dX8_isSoundNow_151 (by decide) (by omega) (fun ht25 => ?_) (fun hf26 => ?_)
                · refine J_iconst (pc := 175) (v := nI 0) dX8_isSoundNow_175 (by decide) ?_
                  exact J_zret (pc := 176) dX8_isSoundNow_176 rfl (nar_b (by first | decide | omega)) ⟨⟨0, rfl, by omega⟩, ⟨rw11, nx1, b1, bt1, kn1, en1, ⟨h19_22, h20_22, h21_22, h22_22, hb_22, hbl_22, hb3_22⟩, hF20, hgrw11, hgnx1, (by first | assumption | exact KX_i (by assumption) (by omega) (by first | rfl | assumption))⟩⟩
                · refine J_aload_n (pc := 154) dX8_isSoundNow_154 rfl rfl rfl ?_
                  refine J_bipush (pc := 155) (v := nI 63) dX8_isSoundNow_155 (by decide) ?_
                  refine J_iconst (pc := 157) (v := nI 2) dX8_isSoundNow_157 (by decide) ?_
                  refine J_callV0 (pc := 158) (M := mX8_isSoundNow) (as := [.int (nI 63), .int (nI 2)]) dX8_isSoundNow_158 fw_X8_byThoseThatStay fl_X8_197 fm_X8_byThoseThatStay fe_X8_byThoseThatStay h19_22 (by decide) rfl rfl rfl (c_X8_byThoseThatStay_atk hs (d := d - 1) (Nat.le_trans (by decide) hdm) (w := w18) (n := n) (mv := mv) (rw := rw11) (nx := nx1) (b := b1) (bt := bt1) (kn := kn1) (en := en1) (dn := dn) (rf := rf) (kk := kk) (th := th) ⟨h19_22, h20_22, h21_22, h22_22, hb_22, hbl_22, hb3_22⟩ hn1 hn2 gm hgrw11 hgnx1 63 (nI 2) (by first | assumption | omega) (by first | assumption | omega) (by first | assumption | omega) (by first | assumption | omega) (kc := 0) (ks := 0)) hdp (st := []) (Nat.le_of_ble_eq_true rfl) rfl (kr_I fun v27 w27 hv27 hw27 => ?_) kx_I
                  obtain ⟨rw27, hR27, hFc27, hgrw27⟩ := hw27
                  obtain ⟨h19_27, h20_27, h21_27, h22_27, hbb_27, hbl_27, hb3_27⟩ := hR27
                  have hF27 := hF20.tr hFc27
                  refine J_aload_n (pc := 161) dX8_isSoundNow_161 rfl rfl rfl ?_
                  refine J_bipush (pc := 162) (v := nI 63) dX8_isSoundNow_162 (by decide) ?_
                  refine J_iconst (pc := 164) (v := nI 2) dX8_isSoundNow_164 (by decide) ?_
                  refine J_callV (pc := 165) (M := mX8_isSoundNow) (as := [.int (nI 63), .int (nI 2)]) dX8_isSoundNow_165 fw_X8_oneByOne fl_X8_200 fm_X8_oneByOne fe_X8_oneByOne h19_27 (by decide) rfl rfl rfl (c_X8_oneByOne hs (d := d - 1) (Nat.le_trans (by decide) hdm) (w := w27) (n := n) (mv := mv) (rw := rw27) (nx := nx1) (b := b1) (bt := bt1) (kn := kn1) (en := en1) (dn := dn) (rf := rf) (kk := kk) (th := th) ⟨h19_27, h20_27, h21_27, h22_27, hbb_27, hbl_27, hb3_27⟩ hn1 hn2 gm hgrw27 hgnx1 63 2 (by first | assumption | omega) (by first | assumption | omega) (by first | assumption | omega) (by first | assumption | omega) (kc := 2) (ks := 4374) (Nat.le_refl _) (Nat.le_refl _)) hdp (by omega) (by omega) (st := [.int v27]) (Nat.le_of_ble_eq_true rfl) rfl (kr_I fun v28 w28 hv28 hw28 => ?_) kx_I
                  obtain ⟨nx28, hR28, hFc28, hgnx28⟩ := hw28
                  obtain ⟨h19_28, h20_28, h21_28, h22_28, hbb_28, hbl_28, hb3_28⟩ := hR28
                  have hF28 := hF27.tr hFc28
                  refine J_icmp_ne (pc := 168) (tgt := 175) dX8_isSoundNow_168 (by decide) (fun ht29 => ?_) (fun hf30 => ?_)
                  · refine J_iconst (pc := 175) (v := nI 0) dX8_isSoundNow_175 (by decide) ?_
                    exact J_zret (pc := 176) dX8_isSoundNow_176 rfl (nar_b (by first | decide | omega)) ⟨⟨0, rfl, by omega⟩, ⟨rw27, nx28, b1, bt1, kn1, en1, ⟨h19_28, h20_28, h21_28, h22_28, hbb_28, hbl_28, hb3_28⟩, hF28, hgrw27, hgnx28, (by first | assumption | exact KX_i (by assumption) (by omega) (by first | rfl | assumption))⟩⟩
                  · refine J_iconst (pc := 171) (v := nI 1) dX8_isSoundNow_171 (by decide) ?_
                    refine J_goto (pc := 172) (tgt := 176) dX8_isSoundNow_172 (by decide) ?_
                    exact J_zret (pc := 176) dX8_isSoundNow_176 rfl (nar_b (by first | decide | omega)) ⟨⟨1, rfl, by omega⟩, ⟨rw27, nx28, b1, bt1, kn1, en1, ⟨h19_28, h20_28, h21_28, h22_28, hbb_28, hbl_28, hb3_28⟩, hF28, hgrw27, hgnx28, (by first | assumption | exact KX_i (by assumption) (by omega) (by first | rfl | assumption))⟩⟩
              · refine J_iload (pc := 102) dX8_isSoundNow_102 rfl ?_
                refine J_if_eqN (pc := 104) (tgt := 140) dX8_isSoundNow_104 (by decide) (by omega) (fun ht31 => ?_) (fun hf32 => ?_)
                · refine J_iconst (pc := 140) (v := nI 0) dX8_isSoundNow_140 (by decide) ?_
                  refine J_istore (pc := 141) dX8_isSoundNow_141 (by decide) rfl ?_
                  show J X mX8_isSoundNow d (kc - 13) (ks - 2054) 143 [some (.ref 19), some (.int (nI k1)), some (.int z2), some (.int v11), some (.int (nI 0)), some (.int (nI c5))] [] w18 _
                  refine J_iincN (pc := 143) (b := 1) dX8_isSoundNow_143 rfl (by decide) (by decide) rfl ?_
                  show J X mX8_isSoundNow d (kc - 13) (ks - 2054) 146 [some (.ref 19), some (.int (nI k1)), some (.int z2), some (.int v11), some (.int (nI 0)), some (.int (nI (c5 + 1)))] [] w18 _
                  refine J_goto (pc := 146) (tgt := 95) dX8_isSoundNow_146 (by decide) ?_
                  exact J_sub (L' := [some (.ref 19), some (.int (nI k1)), some (.int z2), some (.int v11), some (.int (nI 0)), some (.int (nI (c5 + 1)))]) ⟨rfl, ⟨rfl, ⟨rfl, ⟨rfl, ⟨rfl, ⟨rfl, trivial⟩⟩⟩⟩⟩⟩ (ihlp95_17 w18 0 (c5 + 1) ⟨h19_22, h20_22, h21_22, h22_22, hb_22, hbl_22, hb3_22⟩ hF20 (by first | assumption | omega) (by first | assumption | omega) (by omega))
                · refine J_aload_n (pc := 107) dX8_isSoundNow_107 rfl rfl rfl ?_
                  refine J_bipush (pc := 108) (v := nI 63) dX8_isSoundNow_108 (by decide) ?_
                  refine J_iload (pc := 110) dX8_isSoundNow_110 rfl ?_
                  refine J_callV0 (pc := 112) (M := mX8_isSoundNow) (as := [.int (nI 63), .int (nI c5)]) dX8_isSoundNow_112 fw_X8_isInNow fl_X8_185 fm_X8_isInNow fe_X8_isInNow h19_22 (by decide) rfl rfl rfl (c_X8_isInNow_atk hs (d := d - 1) (Nat.le_trans (by decide) hdm) (w := w18) (n := n) (mv := mv) (rw := rw11) (nx := nx1) (b := b1) (bt := bt1) (kn := kn1) (en := en1) (dn := dn) (rf := rf) (kk := kk) (th := th) ⟨h19_22, h20_22, h21_22, h22_22, hb_22, hbl_22, hb3_22⟩ hn1 hn2 gm hgrw11 hgnx1 63 c5 (by first | assumption | omega) (by first | assumption | omega) (by first | assumption | omega) (by first | assumption | omega) (by first | assumption | omega) (kc := 0) (ks := 0)) hdp (st := []) (Nat.le_of_ble_eq_true rfl) rfl (kr_I fun v33 w33 hv33 hw33 => ?_) kx_I
                  obtain ⟨hR33, hFc33⟩ := hw33
                  obtain ⟨h19_33, h20_33, h21_33, h22_33, hbb_33, hbl_33, hb3_33⟩ := hR33
                  have hF33 := hF20.tr hFc33
                  obtain ⟨k33, rfl, hk33⟩ := hv33
                  refine J_if_eqN (pc := 115) (tgt := 140) dX8_isSoundNow_115 (by decide) (by omega) (fun ht34 => ?_) (fun hf35 => ?_)
                  · refine J_iconst (pc := 140) (v := nI 0) dX8_isSoundNow_140 (by decide) ?_
                    refine J_istore (pc := 141) dX8_isSoundNow_141 (by decide) rfl ?_
                    show J X mX8_isSoundNow d (kc - 13) (ks - 2054) 143 [some (.ref 19), some (.int (nI k1)), some (.int z2), some (.int v11), some (.int (nI 0)), some (.int (nI c5))] [] w33 _
                    refine J_iincN (pc := 143) (b := 1) dX8_isSoundNow_143 rfl (by decide) (by decide) rfl ?_
                    show J X mX8_isSoundNow d (kc - 13) (ks - 2054) 146 [some (.ref 19), some (.int (nI k1)), some (.int z2), some (.int v11), some (.int (nI 0)), some (.int (nI (c5 + 1)))] [] w33 _
                    refine J_goto (pc := 146) (tgt := 95) dX8_isSoundNow_146 (by decide) ?_
                    exact J_sub (L' := [some (.ref 19), some (.int (nI k1)), some (.int z2), some (.int v11), some (.int (nI 0)), some (.int (nI (c5 + 1)))]) ⟨rfl, ⟨rfl, ⟨rfl, ⟨rfl, ⟨rfl, ⟨rfl, trivial⟩⟩⟩⟩⟩⟩ (ihlp95_17 w33 0 (c5 + 1) ⟨h19_33, h20_33, h21_33, h22_33, hbb_33, hbl_33, hb3_33⟩ hF33 (by first | assumption | omega) (by first | assumption | omega) (by omega))
                  · refine J_iload_n (pc := 118) dX8_isSoundNow_118 rfl rfl ?_
                    refine J_aload_n (pc := 119) dX8_isSoundNow_119 rfl rfl rfl ?_
                    refine J_aload_n (pc := 120) dX8_isSoundNow_120 rfl rfl rfl ?_
                    refine J_get (pc := 121) (k := 1) dX8_isSoundNow_121 kC9 (by decide) ff_X8_13 h19_33 rfl ?_
                    refine J_iload (pc := 124) dX8_isSoundNow_124 rfl ?_
                    refine J_bipush (pc := 126) (v := nI 7) dX8_isSoundNow_126 (by decide) ?_
                    refine J_imulN (pc := 128) dX8_isSoundNow_128 ?_
                    refine J_callV0 (pc := 129) (M := mX8_isSoundNow) (as := [.ref 20, .int (nI (c5 * 7))]) dX8_isSoundNow_129 fw_X8_orderOf fl_X8_172 fm_X8_orderOf fe_X8_orderOf h19_33 (by decide) rfl rfl rfl (c_X8_orderOf_at20 hs (d := d - 1) (Nat.le_trans (by decide) hdm) (w := w33) (n := n) (mv := mv) (rw := rw11) (nx := nx1) (b := b1) (bt := bt1) (kn := kn1) (en := en1) (dn := dn) (rf := rf) (kk := kk) (th := th) ⟨h19_33, h20_33, h21_33, h22_33, hbb_33, hbl_33, hb3_33⟩ hn1 hn2 gm hgrw11 hgnx1 (c5 * 7) (by first | assumption | omega) (by exact hy0 c5 (by omega)) (kc := 0) (ks := 0)) hdp (st := [.int (nI k1)]) (Nat.le_of_ble_eq_true rfl) rfl (kr_P fun v36 hv36 => ?_) kx_I
                    obtain ⟨k36, rfl, hk36⟩ := hv36
                    have hm37 := Nat.mod_lt k1 (show 0 < k36 by omega)
                    have hm38 := Nat.div_le_self k1 k36
                    refine J_iremN (pc := 132) dX8_isSoundNow_132 (by omega) (by omega) (by omega) ?_
                    refine J_if_neN (pc := 133) (tgt := 140) dX8_isSoundNow_133 (by decide) (by omega) (fun ht39 => ?_) (fun hf40 => ?_)
                    · refine J_iconst (pc := 140) (v := nI 0) dX8_isSoundNow_140 (by decide) ?_
                      refine J_istore (pc := 141) dX8_isSoundNow_141 (by decide) rfl ?_
                      show J X mX8_isSoundNow d (kc - 13) (ks - 2054) 143 [some (.ref 19), some (.int (nI k1)), some (.int z2), some (.int v11), some (.int (nI 0)), some (.int (nI c5))] [] w33 _
                      refine J_iincN (pc := 143) (b := 1) dX8_isSoundNow_143 rfl (by decide) (by decide) rfl ?_
                      show J X mX8_isSoundNow d (kc - 13) (ks - 2054) 146 [some (.ref 19), some (.int (nI k1)), some (.int z2), some (.int v11), some (.int (nI 0)), some (.int (nI (c5 + 1)))] [] w33 _
                      refine J_goto (pc := 146) (tgt := 95) dX8_isSoundNow_146 (by decide) ?_
                      exact J_sub (L' := [some (.ref 19), some (.int (nI k1)), some (.int z2), some (.int v11), some (.int (nI 0)), some (.int (nI (c5 + 1)))]) ⟨rfl, ⟨rfl, ⟨rfl, ⟨rfl, ⟨rfl, ⟨rfl, trivial⟩⟩⟩⟩⟩⟩ (ihlp95_17 w33 0 (c5 + 1) ⟨h19_33, h20_33, h21_33, h22_33, hbb_33, hbl_33, hb3_33⟩ hF33 (by first | assumption | omega) (by first | assumption | omega) (by omega))
                    · refine J_iconst (pc := 136) (v := nI 1) dX8_isSoundNow_136 (by decide) ?_
                      refine J_goto (pc := 137) (tgt := 141) dX8_isSoundNow_137 (by decide) ?_
                      refine J_istore (pc := 141) dX8_isSoundNow_141 (by decide) rfl ?_
                      show J X mX8_isSoundNow d (kc - 13) (ks - 2054) 143 [some (.ref 19), some (.int (nI k1)), some (.int z2), some (.int v11), some (.int (nI 1)), some (.int (nI c5))] [] w33 _
                      refine J_iincN (pc := 143) (b := 1) dX8_isSoundNow_143 rfl (by decide) (by decide) rfl ?_
                      show J X mX8_isSoundNow d (kc - 13) (ks - 2054) 146 [some (.ref 19), some (.int (nI k1)), some (.int z2), some (.int v11), some (.int (nI 1)), some (.int (nI (c5 + 1)))] [] w33 _
                      refine J_goto (pc := 146) (tgt := 95) dX8_isSoundNow_146 (by decide) ?_
                      exact J_sub (L' := [some (.ref 19), some (.int (nI k1)), some (.int z2), some (.int v11), some (.int (nI 1)), some (.int (nI (c5 + 1)))]) ⟨rfl, ⟨rfl, ⟨rfl, ⟨rfl, ⟨rfl, ⟨rfl, trivial⟩⟩⟩⟩⟩⟩ (ihlp95_17 w33 1 (c5 + 1) ⟨h19_33, h20_33, h21_33, h22_33, hbb_33, hbl_33, hb3_33⟩ hF33 (by first | assumption | omega) (by first | assumption | omega) (by omega))
          exact J_sub (L' := [some (.ref 19), some (.int (nI k1)), some (.int z2), some (.int v11), some (.int (nI 0)), some (.int (nI 0))]) ⟨rfl, ⟨rfl, ⟨rfl, ⟨rfl, ⟨rfl, ⟨rfl, trivial⟩⟩⟩⟩⟩⟩ (lp95_17 _ w11 0 0 ⟨h19_11, h20_11, h21_11, h22_11, hbb_11, hbl_11, hb3_11⟩ hF11 (by first | assumption | omega) (by first | assumption | omega) (Nat.lt_succ_self _))
        · refine J_iload_n (pc := 55) dX8_isSoundNow_55 rfl rfl ?_
          refine J_iload_n (pc := 56) dX8_isSoundNow_56 rfl rfl ?_
          refine J_icmp_ne (pc := 57) (tgt := 89) dX8_isSoundNow_57 (by decide) (fun ht41 => ?_) (fun hf42 => ?_)
          · refine J_iconst (pc := 89) (v := nI 0) dX8_isSoundNow_89 (by decide) ?_
            refine J_istore (pc := 90) dX8_isSoundNow_90 (by decide) rfl ?_
            show J X mX8_isSoundNow d (kc - 13) (ks - 2054) 92 [some (.ref 19), some (.int (nI k1)), some (.int z2), some (.int v11), some (.int (nI 0)), none] [] w11 _
            refine J_iconst (pc := 92) (v := nI 0) dX8_isSoundNow_92 (by decide) ?_
            refine J_istore (pc := 93) dX8_isSoundNow_93 (by decide) rfl ?_
            show J X mX8_isSoundNow d (kc - 13) (ks - 2054) 95 [some (.ref 19), some (.int (nI k1)), some (.int z2), some (.int v11), some (.int (nI 0)), some (.int (nI 0))] [] w11 _
            have lp95_43 : ∀ (fuel : Nat) (w44 : List jC) (y4 : Nat) (c5 : Nat), (RM n mv rw11 nx1 b1 bt1 kn1 en1 dn rf kk th w44) → (FR b b1 w w44) → (y4 < 2) → (c5 ≤ 6) → (6 - c5 < fuel) → J X mX8_isSoundNow d (kc - 13) (ks - 2054) 95 [some (.ref 19), some (.int (nI k1)), some (.int z2), some (.int v11), some (.int (nI y4)), some (.int (nI c5))] [] w44 (pI (fun v => ∃ k : Nat, v = nI k ∧ k < 2) (fun w' => ∃ (rw' : Nat → Nat), ∃ (nx' : Nat → Nat), ∃ (b' : Nat), ∃ (bt' : List Int32), ∃ (kn' : Int32), ∃ (en' : Int32), RM n mv rw' nx' b' bt' kn' en' dn rf kk th w' ∧ FR b b' w w' ∧ (∀ i, rw' i < 7) ∧ (∀ i, nx' i < 7) ∧ KX n mv kn' bt')) := by
              intro fuellp95_43
              induction fuellp95_43 with
              | zero => intros; omega
              | succ fuellp95_43 ihlp95_43 =>
                intro w44 y4 c5 hR45 hF46 hv95_0 hv95_1 hf47
                obtain ⟨h19_48, h20_48, h21_48, h22_48, hb_48, hbl_48, hb3_48⟩ := hR45
                refine J_iload (pc := 95) dX8_isSoundNow_95 rfl ?_
                refine J_bipush (pc := 97) (v := nI 6) dX8_isSoundNow_97 (by decide) ?_
                refine J_icmp_geN (pc := 99) (tgt := 149) dX8_isSoundNow_99 (by decide) (by omega) (by omega) (fun ht49 => ?_) (fun hf50 => ?_)
                · refine J_iload (pc := 149) dX8_isSoundNow_149 rfl ?_
                  refine J_if_eqN (pc := 151) (tgt := 175) dX8_isSoundNow_151 (by decide) (by omega) (fun ht51 => ?_) (fun hf52 => ?_)
                  · refine J_iconst (pc := 175) (v := nI 0) dX8_isSoundNow_175 (by decide) ?_
                    exact J_zret (pc := 176) dX8_isSoundNow_176 rfl (nar_b (by first | decide | omega)) ⟨⟨0, rfl, by omega⟩, ⟨rw11, nx1, b1, bt1, kn1, en1, ⟨h19_48, h20_48, h21_48, h22_48, hb_48, hbl_48, hb3_48⟩, hF46, hgrw11, hgnx1, (by first | assumption | exact KX_i (by assumption) (by omega) (by first | rfl | assumption))⟩⟩
                  · refine J_aload_n (pc := 154) dX8_isSoundNow_154 rfl rfl rfl ?_
                    refine J_bipush (pc := 155) (v := nI 63) dX8_isSoundNow_155 (by decide) ?_
                    refine J_iconst (pc := 157) (v := nI 2) dX8_isSoundNow_157 (by decide) ?_
                    refine J_callV0 (pc := 158) (M := mX8_isSoundNow) (as := [.int (nI 63), .int (nI 2)]) dX8_isSoundNow_158 fw_X8_byThoseThatStay fl_X8_197 fm_X8_byThoseThatStay fe_X8_byThoseThatStay h19_48 (by decide) rfl rfl rfl (c_X8_byThoseThatStay_atk hs (d := d - 1) (Nat.le_trans (by decide) hdm) (w := w44) (n := n) (mv := mv) (rw := rw11) (nx := nx1) (b := b1) (bt := bt1) (kn := kn1) (en := en1) (dn := dn) (rf := rf) (kk := kk) (th := th) ⟨h19_48, h20_48, h21_48, h22_48, hb_48, hbl_48, hb3_48⟩ hn1 hn2 gm hgrw11 hgnx1 63 (nI 2) (by first | assumption | omega) (by first | assumption | omega) (by first | assumption | omega) (by first | assumption | omega) (kc := 0) (ks := 0)) hdp (st := []) (Nat.le_of_ble_eq_true rfl) rfl (kr_I fun v53 w53 hv53 hw53 => ?_) kx_I
                    obtain ⟨rw53, hR53, hFc53, hgrw53⟩ := hw53
                    obtain ⟨h19_53, h20_53, h21_53, h22_53, hbb_53, hbl_53, hb3_53⟩ := hR53
                    have hF53 := hF46.tr hFc53
                    refine J_aload_n (pc := 161) dX8_isSoundNow_161 rfl rfl rfl ?_
                    refine J_bipush (pc := 162) (v := nI 63) dX8_isSoundNow_162 (by decide) ?_
                    refine J_iconst (pc := 164) (v := nI 2) dX8_isSoundNow_164 (by decide) ?_
                    refine J_callV (pc := 165) (M := mX8_isSoundNow) (as := [.int (nI 63), .int (nI 2)]) dX8_isSoundNow_165 fw_X8_oneByOne fl_X8_200 fm_X8_oneByOne fe_X8_oneByOne h19_53 (by decide) rfl rfl rfl (c_X8_oneByOne hs (d := d - 1) (Nat.le_trans (by decide) hdm) (w := w53) (n := n) (mv := mv) (rw := rw53) (nx := nx1) (b := b1) (bt := bt1) (kn := kn1) (en := en1) (dn := dn) (rf := rf) (kk := kk) (th := th) ⟨h19_53, h20_53, h21_53, h22_53, hbb_53, hbl_53, hb3_53⟩ hn1 hn2 gm hgrw53 hgnx1 63 2 (by first | assumption | omega) (by first | assumption | omega) (by first | assumption | omega) (by first | assumption | omega) (kc := 2) (ks := 4374) (Nat.le_refl _) (Nat.le_refl _)) hdp (by omega) (by omega) (st := [.int v53]) (Nat.le_of_ble_eq_true rfl) rfl (kr_I fun v54 w54 hv54 hw54 => ?_) kx_I
                    obtain ⟨nx54, hR54, hFc54, hgnx54⟩ := hw54
                    obtain ⟨h19_54, h20_54, h21_54, h22_54, hbb_54, hbl_54, hb3_54⟩ := hR54
                    have hF54 := hF53.tr hFc54
                    refine J_icmp_ne (pc := 168) (tgt := 175) dX8_isSoundNow_168 (by decide) (fun ht55 => ?_) (fun hf56 => ?_)
                    · refine J_iconst (pc := 175) (v := nI 0) dX8_isSoundNow_175 (by decide) ?_
                      exact J_zret (pc := 176) dX8_isSoundNow_176 rfl (nar_b (by first | decide | omega)) ⟨⟨0, rfl, by omega⟩, ⟨rw53, nx54, b1, bt1, kn1, en1, ⟨h19_54, h20_54, h21_54, h22_54, hbb_54, hbl_54, hb3_54⟩, hF54, hgrw53, hgnx54, (by first | assumption | exact KX_i (by assumption) (by omega) (by first | rfl | assumption))⟩⟩
                    · refine J_iconst (pc := 171) (v := nI 1) dX8_isSoundNow_171 (by decide) ?_
                      refine J_goto (pc := 172) (tgt := 176) dX8_isSoundNow_172 (by decide) ?_
                      exact J_zret (pc := 176) dX8_isSoundNow_176 rfl (nar_b (by first | decide | omega)) ⟨⟨1, rfl, by omega⟩, ⟨rw53, nx54, b1, bt1, kn1, en1, ⟨h19_54, h20_54, h21_54, h22_54, hbb_54, hbl_54, hb3_54⟩, hF54, hgrw53, hgnx54, (by first | assumption | exact KX_i (by assumption) (by omega) (by first | rfl | assumption))⟩⟩
                · refine J_iload (pc := 102) dX8_isSoundNow_102 rfl ?_
                  refine J_if_eqN (pc := 104) (tgt := 140) dX8_isSoundNow_104 (by decide) (by omega) (fun ht57 => ?_) (fun hf58 => ?_)
                  · refine J_iconst (pc := 140) (v := nI 0) dX8_isSoundNow_140 (by decide) ?_
                    refine J_istore (pc := 141) dX8_isSoundNow_141 (by decide) rfl ?_
                    show J X mX8_isSoundNow d (kc - 13) (ks - 2054) 143 [some (.ref 19), some (.int (nI k1)), some (.int z2), some (.int v11), some (.int (nI 0)), some (.int (nI c5))] [] w44 _
                    refine J_iincN (pc := 143) (b := 1) dX8_isSoundNow_143 rfl (by decide) (by decide) rfl ?_
                    show J X mX8_isSoundNow d (kc - 13) (ks - 2054) 146 [some (.ref 19), some (.int (nI k1)), some (.int z2), some (.int v11), some (.int (nI 0)), some (.int (nI (c5 + 1)))] [] w44 _
                    refine J_goto (pc := 146) (tgt := 95) dX8_isSoundNow_146 (by decide) ?_
                    exact J_sub (L' := [some (.ref 19), some (.int (nI k1)), some (.int z2), some (.int v11), some (.int (nI 0)), some (.int (nI (c5 + 1)))]) ⟨rfl, ⟨rfl, ⟨rfl, ⟨rfl, ⟨rfl, ⟨rfl, trivial⟩⟩⟩⟩⟩⟩ (ihlp95_43 w44 0 (c5 + 1) ⟨h19_48, h20_48, h21_48, h22_48, hb_48, hbl_48, hb3_48⟩ hF46 (by first | assumption | omega) (by first | assumption | omega) (by omega))
                  · refine J_aload_n (pc := 107) dX8_isSoundNow_107 rfl rfl rfl ?_
                    refine J_bipush (pc := 108) (v := nI 63) dX8_isSoundNow_108 (by decide) ?_
                    refine J_iload (pc := 110) dX8_isSoundNow_110 rfl ?_
                    refine J_callV0 (pc := 112) (M := mX8_isSoundNow) (as := [.int (nI 63), .int (nI c5)]) dX8_isSoundNow_112 fw_X8_isInNow fl_X8_185 fm_X8_isInNow fe_X8_isInNow h19_48 (by decide) rfl rfl rfl (c_X8_isInNow_atk hs (d := d - 1) (Nat.le_trans (by decide) hdm) (w := w44) (n := n) (mv := mv) (rw := rw11) (nx := nx1) (b := b1) (bt := bt1) (kn := kn1) (en := en1) (dn := dn) (rf := rf) (kk := kk) (th := th) ⟨h19_48, h20_48, h21_48, h22_48, hb_48, hbl_48, hb3_48⟩ hn1 hn2 gm hgrw11 hgnx1 63 c5 (by first | assumption | omega) (by first | assumption | omega) (by first | assumption | omega) (by first | assumption | omega) (by first | assumption | omega) (kc := 0) (ks := 0)) hdp (st := []) (Nat.le_of_ble_eq_true rfl) rfl (kr_I fun v59 w59 hv59 hw59 => ?_) kx_I
                    obtain ⟨hR59, hFc59⟩ := hw59
                    obtain ⟨h19_59, h20_59, h21_59, h22_59, hbb_59, hbl_59, hb3_59⟩ := hR59
                    have hF59 := hF46.tr hFc59
                    obtain ⟨k59, rfl, hk59⟩ := hv59
                    refine J_if_eqN (pc := 115) (tgt := 140) dX8_isSoundNow_115 (by decide) (by omega) (fun ht60 => ?_) (fun hf61 => ?_)
                    · refine J_iconst (pc := 140) (v := nI 0) dX8_isSoundNow_140 (by decide) ?_
                      refine J_istore (pc := 141) dX8_isSoundNow_141 (by decide) rfl ?_
                      show J X mX8_isSoundNow d (kc - 13) (ks - 2054) 143 [some (.ref 19), some (.int (nI k1)), some (.int z2), some (.int v11), some (.int (nI 0)), some (.int (nI c5))] [] w59 _
                      refine J_iincN (pc := 143) (b := 1) dX8_isSoundNow_143 rfl (by decide) (by decide) rfl ?_
                      show J X mX8_isSoundNow d (kc - 13) (ks - 2054) 146 [some (.ref 19), some (.int (nI k1)), some (.int z2), some (.int v11), some (.int (nI 0)), some (.int (nI (c5 + 1)))] [] w59 _
                      refine J_goto (pc := 146) (tgt := 95) dX8_isSoundNow_146 (by decide) ?_
                      exact J_sub (L' := [some (.ref 19), some (.int (nI k1)), some (.int z2), some (.int v11), some (.int (nI 0)), some (.int (nI (c5 + 1)))]) ⟨rfl, ⟨rfl, ⟨rfl, ⟨rfl, ⟨rfl, ⟨rfl, trivial⟩⟩⟩⟩⟩⟩ (ihlp95_43 w59 0 (c5 + 1) ⟨h19_59, h20_59, h21_59, h22_59, hbb_59, hbl_59, hb3_59⟩ hF59 (by first | assumption | omega) (by first | assumption | omega) (by omega))
                    · refine J_iload_n (pc := 118) dX8_isSoundNow_118 rfl rfl ?_
                      refine J_aload_n (pc := 119) dX8_isSoundNow_119 rfl rfl rfl ?_
                      refine J_aload_n (pc := 120) dX8_isSoundNow_120 rfl rfl rfl ?_
                      refine J_get (pc := 121) (k := 1) dX8_isSoundNow_121 kC9 (by decide) ff_X8_13 h19_59 rfl ?_
                      refine J_iload (pc := 124) dX8_isSoundNow_124 rfl ?_
                      refine J_bipush (pc := 126) (v := nI 7) dX8_isSoundNow_126 (by decide) ?_
                      refine J_imulN (pc := 128) dX8_isSoundNow_128 ?_
                      refine J_callV0 (pc := 129) (M := mX8_isSoundNow) (as := [.ref 20, .int (nI (c5 * 7))]) dX8_isSoundNow_129 fw_X8_orderOf fl_X8_172 fm_X8_orderOf fe_X8_orderOf h19_59 (by decide) rfl rfl rfl (c_X8_orderOf_at20 hs (d := d - 1) (Nat.le_trans (by decide) hdm) (w := w59) (n := n) (mv := mv) (rw := rw11) (nx := nx1) (b := b1) (bt := bt1) (kn := kn1) (en := en1) (dn := dn) (rf := rf) (kk := kk) (th := th) ⟨h19_59, h20_59, h21_59, h22_59, hbb_59, hbl_59, hb3_59⟩ hn1 hn2 gm hgrw11 hgnx1 (c5 * 7) (by first | assumption | omega) (by exact hy0 c5 (by omega)) (kc := 0) (ks := 0)) hdp (st := [.int (nI k1)]) (Nat.le_of_ble_eq_true rfl) rfl (kr_P fun v62 hv62 => ?_) kx_I
                      obtain ⟨k62, rfl, hk62⟩ := hv62
                      have hm63 := Nat.mod_lt k1 (show 0 < k62 by omega)
                      have hm64 := Nat.div_le_self k1 k62
                      refine J_iremN (pc := 132) dX8_isSoundNow_132 (by omega) (by omega) (by omega) ?_
                      refine J_if_neN (pc := 133) (tgt := 140) dX8_isSoundNow_133 (by decide) (by omega) (fun ht65 => ?_) (fun hf66 => ?_)
                      · refine J_iconst (pc := 140) (v := nI 0) dX8_isSoundNow_140 (by decide) ?_
                        refine J_istore (pc := 141) dX8_isSoundNow_141 (by decide) rfl ?_
                        show J X mX8_isSoundNow d (kc - 13) (ks - 2054) 143 [some (.ref 19), some (.int (nI k1)), some (.int z2), some (.int v11), some (.int (nI 0)), some (.int (nI c5))] [] w59 _
                        refine J_iincN (pc := 143) (b := 1) dX8_isSoundNow_143 rfl (by decide) (by decide) rfl ?_
                        show J X mX8_isSoundNow d (kc - 13) (ks - 2054) 146 [some (.ref 19), some (.int (nI k1)), some (.int z2), some (.int v11), some (.int (nI 0)), some (.int (nI (c5 + 1)))] [] w59 _
                        refine J_goto (pc := 146) (tgt := 95) dX8_isSoundNow_146 (by decide) ?_
                        exact J_sub (L' := [some (.ref 19), some (.int (nI k1)), some (.int z2), some (.int v11), some (.int (nI 0)), some (.int (nI (c5 + 1)))]) ⟨rfl, ⟨rfl, ⟨rfl, ⟨rfl, ⟨rfl, ⟨rfl, trivial⟩⟩⟩⟩⟩⟩ (ihlp95_43 w59 0 (c5 + 1) ⟨h19_59, h20_59, h21_59, h22_59, hbb_59, hbl_59, hb3_59⟩ hF59 (by first | assumption | omega) (by first | assumption | omega) (by omega))
                      · refine J_iconst (pc := 136) (v := nI 1) dX8_isSoundNow_136 (by decide) ?_
                        refine J_goto (pc := 137) (tgt := 141) dX8_isSoundNow_137 (by decide) ?_
                        refine J_istore (pc := 141) dX8_isSoundNow_141 (by decide) rfl ?_
                        show J X mX8_isSoundNow d (kc - 13) (ks - 2054) 143 [some (.ref 19), some (.int (nI k1)), some (.int z2), some (.int v11), some (.int (nI 1)), some (.int (nI c5))] [] w59 _
                        refine J_iincN (pc := 143) (b := 1) dX8_isSoundNow_143 rfl (by decide) (by decide) rfl ?_
                        show J X mX8_isSoundNow d (kc - 13) (ks - 2054) 146 [some (.ref 19), some (.int (nI k1)), some (.int z2), some (.int v11), some (.int (nI 1)), some (.int (nI (c5 + 1)))] [] w59 _
                        refine J_goto (pc := 146) (tgt := 95) dX8_isSoundNow_146 (by decide) ?_
                        exact J_sub (L' := [some (.ref 19), some (.int (nI k1)), some (.int z2), some (.int v11), some (.int (nI 1)), some (.int (nI (c5 + 1)))]) ⟨rfl, ⟨rfl, ⟨rfl, ⟨rfl, ⟨rfl, ⟨rfl, trivial⟩⟩⟩⟩⟩⟩ (ihlp95_43 w59 1 (c5 + 1) ⟨h19_59, h20_59, h21_59, h22_59, hbb_59, hbl_59, hb3_59⟩ hF59 (by first | assumption | omega) (by first | assumption | omega) (by omega))
            exact J_sub (L' := [some (.ref 19), some (.int (nI k1)), some (.int z2), some (.int v11), some (.int (nI 0)), some (.int (nI 0))]) ⟨rfl, ⟨rfl, ⟨rfl, ⟨rfl, ⟨rfl, ⟨rfl, trivial⟩⟩⟩⟩⟩⟩ (lp95_43 _ w11 0 0 ⟨h19_11, h20_11, h21_11, h22_11, hbb_11, hbl_11, hb3_11⟩ hF11 (by first | assumption | omega) (by first | assumption | omega) (Nat.lt_succ_self _))
          · refine J_iload_n (pc := 60) dX8_isSoundNow_60 rfl rfl ?_
            refine J_iload_n (pc := 61) dX8_isSoundNow_61 rfl rfl ?_
            refine J_icmp_eq (pc := 62) (tgt := 72) dX8_isSoundNow_62 (by decide) (fun ht67 => ?_) (fun hf68 => ?_)
            · refine J_iload_n (pc := 72) dX8_isSoundNow_72 rfl rfl ?_
              refine J_iconst (pc := 73) (v := nI 1) dX8_isSoundNow_73 (by decide) ?_
              refine J_aload_n (pc := 74) dX8_isSoundNow_74 rfl rfl rfl ?_
              refine J_get (pc := 75) (k := 6) dX8_isSoundNow_75 kC9 (by decide) ff_X8_85 h19_11 rfl ?_
              refine J_callS0 (pc := 78) (M := mX8_isSoundNow) (as := [.int en1]) dX8_isSoundNow_78 fw_J6_bitCount_0f7a4 fl_X8_96 fs_J6_bitCount_0f7a4 rfl (c_J6_bitCount_0f7a4 hs (d := d - 1) (Nat.le_trans (by decide) hdm) (w := w11) en1 (kc := 0) (ks := 0)) hdp (st := [.int (nI 1), .int (nI k1)]) (Nat.le_of_ble_eq_true rfl) rfl (kr_P fun v69 hv69 => ?_) kx_I
              obtain ⟨k69, rfl, hk69⟩ := hv69
              refine J_ishl (pc := 81) dX8_isSoundNow_81 (J_absI fun x70 => ?_)
              refine J_icmp_ltI (pc := 82) (tgt := 89) dX8_isSoundNow_82 (by decide) (by omega) (fun ht71 => ?_) (fun hf72 => ?_)
              · refine J_iconst (pc := 89) (v := nI 0) dX8_isSoundNow_89 (by decide) ?_
                refine J_istore (pc := 90) dX8_isSoundNow_90 (by decide) rfl ?_
                show J X mX8_isSoundNow d (kc - 13) (ks - 2054) 92 [some (.ref 19), some (.int (nI k1)), some (.int z2), some (.int v11), some (.int (nI 0)), none] [] w11 _
                refine J_iconst (pc := 92) (v := nI 0) dX8_isSoundNow_92 (by decide) ?_
                refine J_istore (pc := 93) dX8_isSoundNow_93 (by decide) rfl ?_
                show J X mX8_isSoundNow d (kc - 13) (ks - 2054) 95 [some (.ref 19), some (.int (nI k1)), some (.int z2), some (.int v11), some (.int (nI 0)), some (.int (nI 0))] [] w11 _
                have lp95_73 : ∀ (fuel : Nat) (w74 : List jC) (y4 : Nat) (c5 : Nat), (RM n mv rw11 nx1 b1 bt1 kn1 en1 dn rf kk th w74) → (FR b b1 w w74) → (y4 < 2) → (c5 ≤ 6) → (6 - c5 < fuel) → J X mX8_isSoundNow d (kc - 13) (ks - 2054) 95 [some (.ref 19), some (.int (nI k1)), some (.int z2), some (.int v11), some (.int (nI y4)), some (.int (nI c5))] [] w74 (pI (fun v => ∃ k : Nat, v = nI k ∧ k < 2) (fun w' => ∃ (rw' : Nat → Nat), ∃ (nx' : Nat → Nat), ∃ (b' : Nat), ∃ (bt' : List Int32), ∃ (kn' : Int32), ∃ (en' : Int32), RM n mv rw' nx' b' bt' kn' en' dn rf kk th w' ∧ FR b b' w w' ∧ (∀ i, rw' i < 7) ∧ (∀ i, nx' i < 7) ∧ KX n mv kn' bt')) := by
                  intro fuellp95_73
                  induction fuellp95_73 with
                  | zero => intros; omega
                  | succ fuellp95_73 ihlp95_73 =>
                    intro w74 y4 c5 hR75 hF76 hv95_0 hv95_1 hf77
                    obtain ⟨h19_78, h20_78, h21_78, h22_78, hb_78, hbl_78, hb3_78⟩ := hR75
                    refine J_iload (pc := 95) dX8_isSoundNow_95 rfl ?_
                    refine J_bipush (pc := 97) (v := nI 6) dX8_isSoundNow_97 (by decide) ?_
                    refine J_icmp_geN (pc := 99) (tgt := 149) dX8_isSoundNow_99 (by decide) (by omega) (by omega) (fun ht79 => ?_) (fun hf80 => ?_)
                    · refine J_iload (pc := 149) dX8_isSoundNow_149 rfl ?_
                      refine J_if_eqN (pc := 151) (tgt := 175) dX8_isSoundNow_151 (by decide) (by omega) (fun ht81 => ?_) (fun hf82 => ?_)
                      · refine J_iconst (pc := 175) (v := nI 0) dX8_isSoundNow_175 (by decide) ?_
                        exact J_zret (pc := 176) dX8_isSoundNow_176 rfl (nar_b (by first | decide | omega)) ⟨⟨0, rfl, by omega⟩, ⟨rw11, nx1, b1, bt1, kn1, en1, ⟨h19_78, h20_78, h21_78, h22_78, hb_78, hbl_78, hb3_78⟩, hF76, hgrw11, hgnx1, (by first | assumption | exact KX_i (by assumption) (by omega) (by first | rfl | assumption))⟩⟩
                      · refine J_aload_n (pc := 154) dX8_isSoundNow_154 rfl rfl rfl ?_
                        refine J_bipush (pc := 155) (v := nI 63) dX8_isSoundNow_155 (by decide) ?_
                        refine J_iconst (pc := 157) (v := nI 2) dX8_isSoundNow_157 (by decide) ?_
                        refine J_callV0 (pc := 158) (M := mX8_isSoundNow) (as := [.int (nI 63), .int (nI 2)]) dX8_isSoundNow_158 fw_X8_byThoseThatStay fl_X8_197 fm_X8_byThoseThatStay fe_X8_byThoseThatStay h19_78 (by decide) rfl rfl rfl (c_X8_byThoseThatStay_atk hs (d := d - 1) (Nat.le_trans (by decide) hdm) (w := w74) (n := n) (mv := mv) (rw := rw11) (nx := nx1) (b := b1) (bt := bt1) (kn := kn1) (en := en1) (dn := dn) (rf := rf) (kk := kk) (th := th) ⟨h19_78, h20_78, h21_78, h22_78, hb_78, hbl_78, hb3_78⟩ hn1 hn2 gm hgrw11 hgnx1 63 (nI 2) (by first | assumption | omega) (by first | assumption | omega) (by first | assumption | omega) (by first | assumption | omega) (kc := 0) (ks := 0)) hdp (st := []) (Nat.le_of_ble_eq_true rfl) rfl (kr_I fun v83 w83 hv83 hw83 => ?_) kx_I
                        obtain ⟨rw83, hR83, hFc83, hgrw83⟩ := hw83
                        obtain ⟨h19_83, h20_83, h21_83, h22_83, hbb_83, hbl_83, hb3_83⟩ := hR83
                        have hF83 := hF76.tr hFc83
                        refine J_aload_n (pc := 161) dX8_isSoundNow_161 rfl rfl rfl ?_
                        refine J_bipush (pc := 162) (v := nI 63) dX8_isSoundNow_162 (by decide) ?_
                        refine J_iconst (pc := 164) (v := nI 2) dX8_isSoundNow_164 (by decide) ?_
                        refine J_callV (pc := 165) (M := mX8_isSoundNow) (as := [.int (nI 63), .int (nI 2)]) dX8_isSoundNow_165 fw_X8_oneByOne fl_X8_200 fm_X8_oneByOne fe_X8_oneByOne h19_83 (by decide) rfl rfl rfl (c_X8_oneByOne hs (d := d - 1) (Nat.le_trans (by decide) hdm) (w := w83) (n := n) (mv := mv) (rw := rw83) (nx := nx1) (b := b1) (bt := bt1) (kn := kn1) (en := en1) (dn := dn) (rf := rf) (kk := kk) (th := th) ⟨h19_83, h20_83, h21_83, h22_83, hbb_83, hbl_83, hb3_83⟩ hn1 hn2 gm hgrw83 hgnx1 63 2 (by first | assumption | omega) (by first | assumption | omega) (by first | assumption | omega) (by first | assumption | omega) (kc := 2) (ks := 4374) (Nat.le_refl _) (Nat.le_refl _)) hdp (by omega) (by omega) (st := [.int v83]) (Nat.le_of_ble_eq_true rfl) rfl (kr_I fun v84 w84 hv84 hw84 => ?_) kx_I
                        obtain ⟨nx84, hR84, hFc84, hgnx84⟩ := hw84
                        obtain ⟨h19_84, h20_84, h21_84, h22_84, hbb_84, hbl_84, hb3_84⟩ := hR84
                        have hF84 := hF83.tr hFc84
                        refine J_icmp_ne (pc := 168) (tgt := 175) dX8_isSoundNow_168 (by decide) (fun ht85 => ?_) (fun hf86 => ?_)
                        · refine J_iconst (pc := 175) (v := nI 0) dX8_isSoundNow_175 (by decide) ?_
                          exact J_zret (pc := 176) dX8_isSoundNow_176 rfl (nar_b (by first | decide | omega)) ⟨⟨0, rfl, by omega⟩, ⟨rw83, nx84, b1, bt1, kn1, en1, ⟨h19_84, h20_84, h21_84, h22_84, hbb_84, hbl_84, hb3_84⟩, hF84, hgrw83, hgnx84, (by first | assumption | exact KX_i (by assumption) (by omega) (by first | rfl | assumption))⟩⟩
                        · refine J_iconst (pc := 171) (v := nI 1) dX8_isSoundNow_171 (by decide) ?_
                          refine J_goto (pc := 172) (tgt := 176) dX8_isSoundNow_172 (by decide) ?_
                          exact J_zret (pc := 176) dX8_isSoundNow_176 rfl (nar_b (by first | decide | omega)) ⟨⟨1, rfl, by omega⟩, ⟨rw83, nx84, b1, bt1, kn1, en1, ⟨h19_84, h20_84, h21_84, h22_84, hbb_84, hbl_84, hb3_84⟩, hF84, hgrw83, hgnx84, (by first | assumption | exact KX_i (by assumption) (by omega) (by first | rfl | assumption))⟩⟩
                    · refine J_iload (pc := 102) dX8_isSoundNow_102 rfl ?_
                      refine J_if_eqN (pc := 104) (tgt := 140) dX8_isSoundNow_104 (by decide) (by omega) (fun ht87 => ?_) (fun hf88 => ?_)
                      · refine J_iconst (pc := 140) (v := nI 0) dX8_isSoundNow_140 (by decide) ?_
                        refine J_istore (pc := 141) dX8_isSoundNow_141 (by decide) rfl ?_
                        show J X mX8_isSoundNow d (kc - 13) (ks - 2054) 143 [some (.ref 19), some (.int (nI k1)), some (.int z2), some (.int v11), some (.int (nI 0)), some (.int (nI c5))] [] w74 _
                        refine J_iincN (pc := 143) (b := 1) dX8_isSoundNow_143 rfl (by decide) (by decide) rfl ?_
                        show J X mX8_isSoundNow d (kc - 13) (ks - 2054) 146 [some (.ref 19), some (.int (nI k1)), some (.int z2), some (.int v11), some (.int (nI 0)), some (.int (nI (c5 + 1)))] [] w74 _
                        refine J_goto (pc := 146) (tgt := 95) dX8_isSoundNow_146 (by decide) ?_
                        exact J_sub (L' := [some (.ref 19), some (.int (nI k1)), some (.int z2), some (.int v11), some (.int (nI 0)), some (.int (nI (c5 + 1)))]) ⟨rfl, ⟨rfl, ⟨rfl, ⟨rfl, ⟨rfl, ⟨rfl, trivial⟩⟩⟩⟩⟩⟩ (ihlp95_73 w74 0 (c5 + 1) ⟨h19_78, h20_78, h21_78, h22_78, hb_78, hbl_78, hb3_78⟩ hF76 (by first | assumption | omega) (by first | assumption | omega) (by omega))
                      · refine J_aload_n (pc := 107) dX8_isSoundNow_107 rfl rfl rfl ?_
                        refine J_bipush (pc := 108) (v := nI 63) dX8_isSoundNow_108 (by decide) ?_
                        refine J_iload (pc := 110) dX8_isSoundNow_110 rfl ?_
                        refine J_callV0 (pc := 112) (M := mX8_isSoundNow) (as := [.int (nI 63), .int (nI c5)]) dX8_isSoundNow_112 fw_X8_isInNow fl_X8_185 fm_X8_isInNow fe_X8_isInNow h19_78 (by decide) rfl rfl rfl (c_X8_isInNow_atk hs (d := d - 1) (Nat.le_trans (by decide) hdm) (w := w74) (n := n) (mv := mv) (rw := rw11) (nx := nx1) (b := b1) (bt := bt1) (kn := kn1) (en := en1) (dn := dn) (rf := rf) (kk := kk) (th := th) ⟨h19_78, h20_78, h21_78, h22_78, hb_78, hbl_78, hb3_78⟩ hn1 hn2 gm hgrw11 hgnx1 63 c5 (by first | assumption | omega) (by first | assumption | omega) (by first | assumption | omega) (by first | assumption | omega) (by first | assumption | omega) (kc := 0) (ks := 0)) hdp (st := []) (Nat.le_of_ble_eq_true rfl) rfl (kr_I fun v89 w89 hv89 hw89 => ?_) kx_I
                        obtain ⟨hR89, hFc89⟩ := hw89
                        obtain ⟨h19_89, h20_89, h21_89, h22_89, hbb_89, hbl_89, hb3_89⟩ := hR89
                        have hF89 := hF76.tr hFc89
                        obtain ⟨k89, rfl, hk89⟩ := hv89
                        refine J_if_eqN (pc := 115) (tgt := 140) dX8_isSoundNow_115 (by decide) (by omega) (fun ht90 => ?_) (fun hf91 => ?_)
                        · refine J_iconst (pc := 140) (v := nI 0) dX8_isSoundNow_140 (by decide) ?_
                          refine J_istore (pc := 141) dX8_isSoundNow_141 (by decide) rfl ?_
                          show J X mX8_isSoundNow d (kc - 13) (ks - 2054) 143 [some (.ref 19), some (.int (nI k1)), some (.int z2), some (.int v11), some (.int (nI 0)), some (.int (nI c5))] [] w89 _
                          refine J_iincN (pc := 143) (b := 1) dX8_isSoundNow_143 rfl (by decide) (by decide) rfl ?_
                          show J X mX8_isSoundNow d (kc - 13) (ks - 2054) 146 [some (.ref 19), some (.int (nI k1)), some (.int z2), some (.int v11), some (.int (nI 0)), some (.int (nI (c5 + 1)))] [] w89 _
                          refine J_goto (pc := 146) (tgt := 95) dX8_isSoundNow_146 (by decide) ?_
                          exact J_sub (L' := [some (.ref 19), some (.int (nI k1)), some (.int z2), some (.int v11), some (.int (nI 0)), some (.int (nI (c5 + 1)))]) ⟨rfl, ⟨rfl, ⟨rfl, ⟨rfl, ⟨rfl, ⟨rfl, trivial⟩⟩⟩⟩⟩⟩ (ihlp95_73 w89 0 (c5 + 1) ⟨h19_89, h20_89, h21_89, h22_89, hbb_89, hbl_89, hb3_89⟩ hF89 (by first | assumption | omega) (by first | assumption | omega) (by omega))
                        · refine J_iload_n (pc := 118) dX8_isSoundNow_118 rfl rfl ?_
                          refine J_aload_n (pc := 119) dX8_isSoundNow_119 rfl rfl rfl ?_
                          refine J_aload_n (pc := 120) dX8_isSoundNow_120 rfl rfl rfl ?_
                          refine J_get (pc := 121) (k := 1) dX8_isSoundNow_121 kC9 (by decide) ff_X8_13 h19_89 rfl ?_
                          refine J_iload (pc := 124) dX8_isSoundNow_124 rfl ?_
                          refine J_bipush (pc := 126) (v := nI 7) dX8_isSoundNow_126 (by decide) ?_
                          refine J_imulN (pc := 128) dX8_isSoundNow_128 ?_
                          refine J_callV0 (pc := 129) (M := mX8_isSoundNow) (as := [.ref 20, .int (nI (c5 * 7))]) dX8_isSoundNow_129 fw_X8_orderOf fl_X8_172 fm_X8_orderOf fe_X8_orderOf h19_89 (by decide) rfl rfl rfl (c_X8_orderOf_at20 hs (d := d - 1) (Nat.le_trans (by decide) hdm) (w := w89) (n := n) (mv := mv) (rw := rw11) (nx := nx1) (b := b1) (bt := bt1) (kn := kn1) (en := en1) (dn := dn) (rf := rf) (kk := kk) (th := th) ⟨h19_89, h20_89, h21_89, h22_89, hbb_89, hbl_89, hb3_89⟩ hn1 hn2 gm hgrw11 hgnx1 (c5 * 7) (by first | assumption | omega) (by exact hy0 c5 (by omega)) (kc := 0) (ks := 0)) hdp (st := [.int (nI k1)]) (Nat.le_of_ble_eq_true rfl) rfl (kr_P fun v92 hv92 => ?_) kx_I
                          obtain ⟨k92, rfl, hk92⟩ := hv92
                          have hm93 := Nat.mod_lt k1 (show 0 < k92 by omega)
                          have hm94 := Nat.div_le_self k1 k92
                          refine J_iremN (pc := 132) dX8_isSoundNow_132 (by omega) (by omega) (by omega) ?_
                          refine J_if_neN (pc := 133) (tgt := 140) dX8_isSoundNow_133 (by decide) (by omega) (fun ht95 => ?_) (fun hf96 => ?_)
                          · refine J_iconst (pc := 140) (v := nI 0) dX8_isSoundNow_140 (by decide) ?_
                            refine J_istore (pc := 141) dX8_isSoundNow_141 (by decide) rfl ?_
                            show J X mX8_isSoundNow d (kc - 13) (ks - 2054) 143 [some (.ref 19), some (.int (nI k1)), some (.int z2), some (.int v11), some (.int (nI 0)), some (.int (nI c5))] [] w89 _
                            refine J_iincN (pc := 143) (b := 1) dX8_isSoundNow_143 rfl (by decide) (by decide) rfl ?_
                            show J X mX8_isSoundNow d (kc - 13) (ks - 2054) 146 [some (.ref 19), some (.int (nI k1)), some (.int z2), some (.int v11), some (.int (nI 0)), some (.int (nI (c5 + 1)))] [] w89 _
                            refine J_goto (pc := 146) (tgt := 95) dX8_isSoundNow_146 (by decide) ?_
                            exact J_sub (L' := [some (.ref 19), some (.int (nI k1)), some (.int z2), some (.int v11), some (.int (nI 0)), some (.int (nI (c5 + 1)))]) ⟨rfl, ⟨rfl, ⟨rfl, ⟨rfl, ⟨rfl, ⟨rfl, trivial⟩⟩⟩⟩⟩⟩ (ihlp95_73 w89 0 (c5 + 1) ⟨h19_89, h20_89, h21_89, h22_89, hbb_89, hbl_89, hb3_89⟩ hF89 (by first | assumption | omega) (by first | assumption | omega) (by omega))
                          · refine J_iconst (pc := 136) (v := nI 1) dX8_isSoundNow_136 (by decide) ?_
                            refine J_goto (pc := 137) (tgt := 141) dX8_isSoundNow_137 (by decide) ?_
                            refine J_istore (pc := 141) dX8_isSoundNow_141 (by decide) rfl ?_
                            show J X mX8_isSoundNow d (kc - 13) (ks - 2054) 143 [some (.ref 19), some (.int (nI k1)), some (.int z2), some (.int v11), some (.int (nI 1)), some (.int (nI c5))] [] w89 _
                            refine J_iincN (pc := 143) (b := 1) dX8_isSoundNow_143 rfl (by decide) (by decide) rfl ?_
                            show J X mX8_isSoundNow d (kc - 13) (ks - 2054) 146 [some (.ref 19), some (.int (nI k1)), some (.int z2), some (.int v11), some (.int (nI 1)), some (.int (nI (c5 + 1)))] [] w89 _
                            refine J_goto (pc := 146) (tgt := 95) dX8_isSoundNow_146 (by decide) ?_
                            exact J_sub (L' := [some (.ref 19), some (.int (nI k1)), some (.int z2), some (.int v11), some (.int (nI 1)), some (.int (nI (c5 + 1)))]) ⟨rfl, ⟨rfl, ⟨rfl, ⟨rfl, ⟨rfl, ⟨rfl, trivial⟩⟩⟩⟩⟩⟩ (ihlp95_73 w89 1 (c5 + 1) ⟨h19_89, h20_89, h21_89, h22_89, hbb_89, hbl_89, hb3_89⟩ hF89 (by first | assumption | omega) (by first | assumption | omega) (by omega))
                exact J_sub (L' := [some (.ref 19), some (.int (nI k1)), some (.int z2), some (.int v11), some (.int (nI 0)), some (.int (nI 0))]) ⟨rfl, ⟨rfl, ⟨rfl, ⟨rfl, ⟨rfl, ⟨rfl, trivial⟩⟩⟩⟩⟩⟩ (lp95_73 _ w11 0 0 ⟨h19_11, h20_11, h21_11, h22_11, hbb_11, hbl_11, hb3_11⟩ hF11 (by first | assumption | omega) (by first | assumption | omega) (Nat.lt_succ_self _))
              · refine J_iconst (pc := 85) (v := nI 1) dX8_isSoundNow_85 (by decide) ?_
                refine J_goto (pc := 86) (tgt := 90) dX8_isSoundNow_86 (by decide) ?_
                refine J_istore (pc := 90) dX8_isSoundNow_90 (by decide) rfl ?_
                show J X mX8_isSoundNow d (kc - 13) (ks - 2054) 92 [some (.ref 19), some (.int (nI k1)), some (.int z2), some (.int v11), some (.int (nI 1)), none] [] w11 _
                refine J_iconst (pc := 92) (v := nI 0) dX8_isSoundNow_92 (by decide) ?_
                refine J_istore (pc := 93) dX8_isSoundNow_93 (by decide) rfl ?_
                show J X mX8_isSoundNow d (kc - 13) (ks - 2054) 95 [some (.ref 19), some (.int (nI k1)), some (.int z2), some (.int v11), some (.int (nI 1)), some (.int (nI 0))] [] w11 _
                have lp95_97 : ∀ (fuel : Nat) (w98 : List jC) (y4 : Nat) (c5 : Nat), (RM n mv rw11 nx1 b1 bt1 kn1 en1 dn rf kk th w98) → (FR b b1 w w98) → (y4 < 2) → (c5 ≤ 6) → (6 - c5 < fuel) → J X mX8_isSoundNow d (kc - 13) (ks - 2054) 95 [some (.ref 19), some (.int (nI k1)), some (.int z2), some (.int v11), some (.int (nI y4)), some (.int (nI c5))] [] w98 (pI (fun v => ∃ k : Nat, v = nI k ∧ k < 2) (fun w' => ∃ (rw' : Nat → Nat), ∃ (nx' : Nat → Nat), ∃ (b' : Nat), ∃ (bt' : List Int32), ∃ (kn' : Int32), ∃ (en' : Int32), RM n mv rw' nx' b' bt' kn' en' dn rf kk th w' ∧ FR b b' w w' ∧ (∀ i, rw' i < 7) ∧ (∀ i, nx' i < 7) ∧ KX n mv kn' bt')) := by
                  intro fuellp95_97
                  induction fuellp95_97 with
                  | zero => intros; omega
                  | succ fuellp95_97 ihlp95_97 =>
                    intro w98 y4 c5 hR99 hF100 hv95_0 hv95_1 hf101
                    obtain ⟨h19_102, h20_102, h21_102, h22_102, hb_102, hbl_102, hb3_102⟩ := hR99
                    refine J_iload (pc := 95) dX8_isSoundNow_95 rfl ?_
                    refine J_bipush (pc := 97) (v := nI 6) dX8_isSoundNow_97 (by decide) ?_
                    refine J_icmp_geN (pc := 99) (tgt := 149) dX8_isSoundNow_99 (by decide) (by omega) (by omega) (fun ht103 => ?_) (fun hf104 => ?_)
                    · refine J_iload (pc := 149) dX8_isSoundNow_149 rfl ?_
                      refine J_if_eqN (pc := 151) (tgt := 175) dX8_isSoundNow_151 (by decide) (by omega) (fun ht105 => ?_) (fun hf106 => ?_)
                      · refine J_iconst (pc := 175) (v := nI 0) dX8_isSoundNow_175 (by decide) ?_
                        exact J_zret (pc := 176) dX8_isSoundNow_176 rfl (nar_b (by first | decide | omega)) ⟨⟨0, rfl, by omega⟩, ⟨rw11, nx1, b1, bt1, kn1, en1, ⟨h19_102, h20_102, h21_102, h22_102, hb_102, hbl_102, hb3_102⟩, hF100, hgrw11, hgnx1, (by first | assumption | exact KX_i (by assumption) (by omega) (by first | rfl | assumption))⟩⟩
                      · refine J_aload_n (pc := 154) dX8_isSoundNow_154 rfl rfl rfl ?_
                        refine J_bipush (pc := 155) (v := nI 63) dX8_isSoundNow_155 (by decide) ?_
                        refine J_iconst (pc := 157) (v := nI 2) dX8_isSoundNow_157 (by decide) ?_
                        refine J_callV0 (pc := 158) (M := mX8_isSoundNow) (as := [.int (nI 63), .int (nI 2)]) dX8_isSoundNow_158 fw_X8_byThoseThatStay fl_X8_197 fm_X8_byThoseThatStay fe_X8_byThoseThatStay h19_102 (by decide) rfl rfl rfl (c_X8_byThoseThatStay_atk hs (d := d - 1) (Nat.le_trans (by decide) hdm) (w := w98) (n := n) (mv := mv) (rw := rw11) (nx := nx1) (b := b1) (bt := bt1) (kn := kn1) (en := en1) (dn := dn) (rf := rf) (kk := kk) (th := th) ⟨h19_102, h20_102, h21_102, h22_102, hb_102, hbl_102, hb3_102⟩ hn1 hn2 gm hgrw11 hgnx1 63 (nI 2) (by first | assumption | omega) (by first | assumption | omega) (by first | assumption | omega) (by first | assumption | omega) (kc := 0) (ks := 0)) hdp (st := []) (Nat.le_of_ble_eq_true rfl) rfl (kr_I fun v107 w107 hv107 hw107 => ?_) kx_I
                        obtain ⟨rw107, hR107, hFc107, hgrw107⟩ := hw107
                        obtain ⟨h19_107, h20_107, h21_107, h22_107, hbb_107, hbl_107, hb3_107⟩ := hR107
                        have hF107 := hF100.tr hFc107
                        refine J_aload_n (pc := 161) dX8_isSoundNow_161 rfl rfl rfl ?_
                        refine J_bipush (pc := 162) (v := nI 63) dX8_isSoundNow_162 (by decide) ?_
                        refine J_iconst (pc := 164) (v := nI 2) dX8_isSoundNow_164 (by decide) ?_
                        refine J_callV (pc := 165) (M := mX8_isSoundNow) (as := [.int (nI 63), .int (nI 2)]) dX8_isSoundNow_165 fw_X8_oneByOne fl_X8_200 fm_X8_oneByOne fe_X8_oneByOne h19_107 (by decide) rfl rfl rfl (c_X8_oneByOne hs (d := d - 1) (Nat.le_trans (by decide) hdm) (w := w107) (n := n) (mv := mv) (rw := rw107) (nx := nx1) (b := b1) (bt := bt1) (kn := kn1) (en := en1) (dn := dn) (rf := rf) (kk := kk) (th := th) ⟨h19_107, h20_107, h21_107, h22_107, hbb_107, hbl_107, hb3_107⟩ hn1 hn2 gm hgrw107 hgnx1 63 2 (by first | assumption | omega) (by first | assumption | omega) (by first | assumption | omega) (by first | assumption | omega) (kc := 2) (ks := 4374) (Nat.le_refl _) (Nat.le_refl _)) hdp (by omega) (by omega) (st := [.int v107]) (Nat.le_of_ble_eq_true rfl) rfl (kr_I fun v108 w108 hv108 hw108 => ?_) kx_I
                        obtain ⟨nx108, hR108, hFc108, hgnx108⟩ := hw108
                        obtain ⟨h19_108, h20_108, h21_108, h22_108, hbb_108, hbl_108, hb3_108⟩ := hR108
                        have hF108 := hF107.tr hFc108
                        refine J_icmp_ne (pc := 168) (tgt := 175) dX8_isSoundNow_168 (by decide) (fun ht109 => ?_) (fun hf110 => ?_)
                        · refine J_iconst (pc := 175) (v := nI 0) dX8_isSoundNow_175 (by decide) ?_
                          exact J_zret (pc := 176) dX8_isSoundNow_176 rfl (nar_b (by first | decide | omega)) ⟨⟨0, rfl, by omega⟩, ⟨rw107, nx108, b1, bt1, kn1, en1, ⟨h19_108, h20_108, h21_108, h22_108, hbb_108, hbl_108, hb3_108⟩, hF108, hgrw107, hgnx108, (by first | assumption | exact KX_i (by assumption) (by omega) (by first | rfl | assumption))⟩⟩
                        · refine J_iconst (pc := 171) (v := nI 1) dX8_isSoundNow_171 (by decide) ?_
                          refine J_goto (pc := 172) (tgt := 176) dX8_isSoundNow_172 (by decide) ?_
                          exact J_zret (pc := 176) dX8_isSoundNow_176 rfl (nar_b (by first | decide | omega)) ⟨⟨1, rfl, by omega⟩, ⟨rw107, nx108, b1, bt1, kn1, en1, ⟨h19_108, h20_108, h21_108, h22_108, hbb_108, hbl_108, hb3_108⟩, hF108, hgrw107, hgnx108, (by first | assumption | exact KX_i (by assumption) (by omega) (by first | rfl | assumption))⟩⟩
                    · refine J_iload (pc := 102) dX8_isSoundNow_102 rfl ?_
                      refine J_if_eqN (pc := 104) (tgt := 140) dX8_isSoundNow_104 (by decide) (by omega) (fun ht111 => ?_) (fun hf112 => ?_)
                      · refine J_iconst (pc := 140) (v := nI 0) dX8_isSoundNow_140 (by decide) ?_
                        refine J_istore (pc := 141) dX8_isSoundNow_141 (by decide) rfl ?_
                        show J X mX8_isSoundNow d (kc - 13) (ks - 2054) 143 [some (.ref 19), some (.int (nI k1)), some (.int z2), some (.int v11), some (.int (nI 0)), some (.int (nI c5))] [] w98 _
                        refine J_iincN (pc := 143) (b := 1) dX8_isSoundNow_143 rfl (by decide) (by decide) rfl ?_
                        show J X mX8_isSoundNow d (kc - 13) (ks - 2054) 146 [some (.ref 19), some (.int (nI k1)), some (.int z2), some (.int v11), some (.int (nI 0)), some (.int (nI (c5 + 1)))] [] w98 _
                        refine J_goto (pc := 146) (tgt := 95) dX8_isSoundNow_146 (by decide) ?_
                        exact J_sub (L' := [some (.ref 19), some (.int (nI k1)), some (.int z2), some (.int v11), some (.int (nI 0)), some (.int (nI (c5 + 1)))]) ⟨rfl, ⟨rfl, ⟨rfl, ⟨rfl, ⟨rfl, ⟨rfl, trivial⟩⟩⟩⟩⟩⟩ (ihlp95_97 w98 0 (c5 + 1) ⟨h19_102, h20_102, h21_102, h22_102, hb_102, hbl_102, hb3_102⟩ hF100 (by first | assumption | omega) (by first | assumption | omega) (by omega))
                      · refine J_aload_n (pc := 107) dX8_isSoundNow_107 rfl rfl rfl ?_
                        refine J_bipush (pc := 108) (v := nI 63) dX8_isSoundNow_108 (by decide) ?_
                        refine J_iload (pc := 110) dX8_isSoundNow_110 rfl ?_
                        refine J_callV0 (pc := 112) (M := mX8_isSoundNow) (as := [.int (nI 63), .int (nI c5)]) dX8_isSoundNow_112 fw_X8_isInNow fl_X8_185 fm_X8_isInNow fe_X8_isInNow h19_102 (by decide) rfl rfl rfl (c_X8_isInNow_atk hs (d := d - 1) (Nat.le_trans (by decide) hdm) (w := w98) (n := n) (mv := mv) (rw := rw11) (nx := nx1) (b := b1) (bt := bt1) (kn := kn1) (en := en1) (dn := dn) (rf := rf) (kk := kk) (th := th) ⟨h19_102, h20_102, h21_102, h22_102, hb_102, hbl_102, hb3_102⟩ hn1 hn2 gm hgrw11 hgnx1 63 c5 (by first | assumption | omega) (by first | assumption | omega) (by first | assumption | omega) (by first | assumption | omega) (by first | assumption | omega) (kc := 0) (ks := 0)) hdp (st := []) (Nat.le_of_ble_eq_true rfl) rfl (kr_I fun v113 w113 hv113 hw113 => ?_) kx_I
                        obtain ⟨hR113, hFc113⟩ := hw113
                        obtain ⟨h19_113, h20_113, h21_113, h22_113, hbb_113, hbl_113, hb3_113⟩ := hR113
                        have hF113 := hF100.tr hFc113
                        obtain ⟨k113, rfl, hk113⟩ := hv113
                        refine J_if_eqN (pc := 115) (tgt := 140) dX8_isSoundNow_115 (by decide) (by omega) (fun ht114 => ?_) (fun hf115 => ?_)
                        · refine J_iconst (pc := 140) (v := nI 0) dX8_isSoundNow_140 (by decide) ?_
                          refine J_istore (pc := 141) dX8_isSoundNow_141 (by decide) rfl ?_
                          show J X mX8_isSoundNow d (kc - 13) (ks - 2054) 143 [some (.ref 19), some (.int (nI k1)), some (.int z2), some (.int v11), some (.int (nI 0)), some (.int (nI c5))] [] w113 _
                          refine J_iincN (pc := 143) (b := 1) dX8_isSoundNow_143 rfl (by decide) (by decide) rfl ?_
                          show J X mX8_isSoundNow d (kc - 13) (ks - 2054) 146 [some (.ref 19), some (.int (nI k1)), some (.int z2), some (.int v11), some (.int (nI 0)), some (.int (nI (c5 + 1)))] [] w113 _
                          refine J_goto (pc := 146) (tgt := 95) dX8_isSoundNow_146 (by decide) ?_
                          exact J_sub (L' := [some (.ref 19), some (.int (nI k1)), some (.int z2), some (.int v11), some (.int (nI 0)), some (.int (nI (c5 + 1)))]) ⟨rfl, ⟨rfl, ⟨rfl, ⟨rfl, ⟨rfl, ⟨rfl, trivial⟩⟩⟩⟩⟩⟩ (ihlp95_97 w113 0 (c5 + 1) ⟨h19_113, h20_113, h21_113, h22_113, hbb_113, hbl_113, hb3_113⟩ hF113 (by first | assumption | omega) (by first | assumption | omega) (by omega))
                        · refine J_iload_n (pc := 118) dX8_isSoundNow_118 rfl rfl ?_
                          refine J_aload_n (pc := 119) dX8_isSoundNow_119 rfl rfl rfl ?_
                          refine J_aload_n (pc := 120) dX8_isSoundNow_120 rfl rfl rfl ?_
                          refine J_get (pc := 121) (k := 1) dX8_isSoundNow_121 kC9 (by decide) ff_X8_13 h19_113 rfl ?_
                          refine J_iload (pc := 124) dX8_isSoundNow_124 rfl ?_
                          refine J_bipush (pc := 126) (v := nI 7) dX8_isSoundNow_126 (by decide) ?_
                          refine J_imulN (pc := 128) dX8_isSoundNow_128 ?_
                          refine J_callV0 (pc := 129) (M := mX8_isSoundNow) (as := [.ref 20, .int (nI (c5 * 7))]) dX8_isSoundNow_129 fw_X8_orderOf fl_X8_172 fm_X8_orderOf fe_X8_orderOf h19_113 (by decide) rfl rfl rfl (c_X8_orderOf_at20 hs (d := d - 1) (Nat.le_trans (by decide) hdm) (w := w113) (n := n) (mv := mv) (rw := rw11) (nx := nx1) (b := b1) (bt := bt1) (kn := kn1) (en := en1) (dn := dn) (rf := rf) (kk := kk) (th := th) ⟨h19_113, h20_113, h21_113, h22_113, hbb_113, hbl_113, hb3_113⟩ hn1 hn2 gm hgrw11 hgnx1 (c5 * 7) (by first | assumption | omega) (by exact hy0 c5 (by omega)) (kc := 0) (ks := 0)) hdp (st := [.int (nI k1)]) (Nat.le_of_ble_eq_true rfl) rfl (kr_P fun v116 hv116 => ?_) kx_I
                          obtain ⟨k116, rfl, hk116⟩ := hv116
                          have hm117 := Nat.mod_lt k1 (show 0 < k116 by omega)
                          have hm118 := Nat.div_le_self k1 k116
                          refine J_iremN (pc := 132) dX8_isSoundNow_132 (by omega) (by omega) (by omega) ?_
                          refine J_if_neN (pc := 133) (tgt := 140) dX8_isSoundNow_133 (by decide) (by omega) (fun ht119 => ?_) (fun hf120 => ?_)
                          · refine J_iconst (pc := 140) (v := nI 0) dX8_isSoundNow_140 (by decide) ?_
                            refine J_istore (pc := 141) dX8_isSoundNow_141 (by decide) rfl ?_
                            show J X mX8_isSoundNow d (kc - 13) (ks - 2054) 143 [some (.ref 19), some (.int (nI k1)), some (.int z2), some (.int v11), some (.int (nI 0)), some (.int (nI c5))] [] w113 _
                            refine J_iincN (pc := 143) (b := 1) dX8_isSoundNow_143 rfl (by decide) (by decide) rfl ?_
                            show J X mX8_isSoundNow d (kc - 13) (ks - 2054) 146 [some (.ref 19), some (.int (nI k1)), some (.int z2), some (.int v11), some (.int (nI 0)), some (.int (nI (c5 + 1)))] [] w113 _
                            refine J_goto (pc := 146) (tgt := 95) dX8_isSoundNow_146 (by decide) ?_
                            exact J_sub (L' := [some (.ref 19), some (.int (nI k1)), some (.int z2), some (.int v11), some (.int (nI 0)), some (.int (nI (c5 + 1)))]) ⟨rfl, ⟨rfl, ⟨rfl, ⟨rfl, ⟨rfl, ⟨rfl, trivial⟩⟩⟩⟩⟩⟩ (ihlp95_97 w113 0 (c5 + 1) ⟨h19_113, h20_113, h21_113, h22_113, hbb_113, hbl_113, hb3_113⟩ hF113 (by first | assumption | omega) (by first | assumption | omega) (by omega))
                          · refine J_iconst (pc := 136) (v := nI 1) dX8_isSoundNow_136 (by decide) ?_
                            refine J_goto (pc := 137) (tgt := 141) dX8_isSoundNow_137 (by decide) ?_
                            refine J_istore (pc := 141) dX8_isSoundNow_141 (by decide) rfl ?_
                            show J X mX8_isSoundNow d (kc - 13) (ks - 2054) 143 [some (.ref 19), some (.int (nI k1)), some (.int z2), some (.int v11), some (.int (nI 1)), some (.int (nI c5))] [] w113 _
                            refine J_iincN (pc := 143) (b := 1) dX8_isSoundNow_143 rfl (by decide) (by decide) rfl ?_
                            show J X mX8_isSoundNow d (kc - 13) (ks - 2054) 146 [some (.ref 19), some (.int (nI k1)), some (.int z2), some (.int v11), some (.int (nI 1)), some (.int (nI (c5 + 1)))] [] w113 _
                            refine J_goto (pc := 146) (tgt := 95) dX8_isSoundNow_146 (by decide) ?_
                            exact J_sub (L' := [some (.ref 19), some (.int (nI k1)), some (.int z2), some (.int v11), some (.int (nI 1)), some (.int (nI (c5 + 1)))]) ⟨rfl, ⟨rfl, ⟨rfl, ⟨rfl, ⟨rfl, ⟨rfl, trivial⟩⟩⟩⟩⟩⟩ (ihlp95_97 w113 1 (c5 + 1) ⟨h19_113, h20_113, h21_113, h22_113, hbb_113, hbl_113, hb3_113⟩ hF113 (by first | assumption | omega) (by first | assumption | omega) (by omega))
                exact J_sub (L' := [some (.ref 19), some (.int (nI k1)), some (.int z2), some (.int v11), some (.int (nI 1)), some (.int (nI 0))]) ⟨rfl, ⟨rfl, ⟨rfl, ⟨rfl, ⟨rfl, ⟨rfl, trivial⟩⟩⟩⟩⟩⟩ (lp95_97 _ w11 1 0 ⟨h19_11, h20_11, h21_11, h22_11, hbb_11, hbl_11, hb3_11⟩ hF11 (by first | assumption | omega) (by first | assumption | omega) (Nat.lt_succ_self _))
            · refine J_iconst (pc := 65) (v := nI 2) dX8_isSoundNow_65 (by decide) ?_
              refine J_iload_n (pc := 66) dX8_isSoundNow_66 rfl rfl ?_
              refine J_imul (pc := 67) dX8_isSoundNow_67 (J_absI fun x121 => ?_)
              refine J_iload_n (pc := 68) dX8_isSoundNow_68 rfl rfl ?_
              refine J_icmp_ne (pc := 69) (tgt := 89) dX8_isSoundNow_69 (by decide) (fun ht122 => ?_) (fun hf123 => ?_)
              · refine J_iconst (pc := 89) (v := nI 0) dX8_isSoundNow_89 (by decide) ?_
                refine J_istore (pc := 90) dX8_isSoundNow_90 (by decide) rfl ?_
                show J X mX8_isSoundNow d (kc - 13) (ks - 2054) 92 [some (.ref 19), some (.int (nI k1)), some (.int z2), some (.int v11), some (.int (nI 0)), none] [] w11 _
                refine J_iconst (pc := 92) (v := nI 0) dX8_isSoundNow_92 (by decide) ?_
                refine J_istore (pc := 93) dX8_isSoundNow_93 (by decide) rfl ?_
                show J X mX8_isSoundNow d (kc - 13) (ks - 2054) 95 [some (.ref 19), some (.int (nI k1)), some (.int z2), some (.int v11), some (.int (nI 0)), some (.int (nI 0))] [] w11 _
                have lp95_124 : ∀ (fuel : Nat) (w125 : List jC) (y4 : Nat) (c5 : Nat), (RM n mv rw11 nx1 b1 bt1 kn1 en1 dn rf kk th w125) → (FR b b1 w w125) → (y4 < 2) → (c5 ≤ 6) → (6 - c5 < fuel) → J X mX8_isSoundNow d (kc - 13) (ks - 2054) 95 [some (.ref 19), some (.int (nI k1)), some (.int z2), some (.int v11), some (.int (nI y4)), some (.int (nI c5))] [] w125 (pI (fun v => ∃ k : Nat, v = nI k ∧ k < 2) (fun w' => ∃ (rw' : Nat → Nat), ∃ (nx' : Nat → Nat), ∃ (b' : Nat), ∃ (bt' : List Int32), ∃ (kn' : Int32), ∃ (en' : Int32), RM n mv rw' nx' b' bt' kn' en' dn rf kk th w' ∧ FR b b' w w' ∧ (∀ i, rw' i < 7) ∧ (∀ i, nx' i < 7) ∧ KX n mv kn' bt')) := by
                  intro fuellp95_124
                  induction fuellp95_124 with
                  | zero => intros; omega
                  | succ fuellp95_124 ihlp95_124 =>
                    intro w125 y4 c5 hR126 hF127 hv95_0 hv95_1 hf128
                    obtain ⟨h19_129, h20_129, h21_129, h22_129, hb_129, hbl_129, hb3_129⟩ := hR126
                    refine J_iload (pc := 95) dX8_isSoundNow_95 rfl ?_
                    refine J_bipush (pc := 97) (v := nI 6) dX8_isSoundNow_97 (by decide) ?_
                    refine J_icmp_geN (pc := 99) (tgt := 149) dX8_isSoundNow_99 (by decide) (by omega) (by omega) (fun ht130 => ?_) (fun hf131 => ?_)
                    · refine J_iload (pc := 149) dX8_isSoundNow_149 rfl ?_
                      refine J_if_eqN (pc := 151) (tgt := 175) dX8_isSoundNow_151 (by decide) (by omega) (fun ht132 => ?_) (fun hf133 => ?_)
                      · refine J_iconst (pc := 175) (v := nI 0) dX8_isSoundNow_175 (by decide) ?_
                        exact J_zret (pc := 176) dX8_isSoundNow_176 rfl (nar_b (by first | decide | omega)) ⟨⟨0, rfl, by omega⟩, ⟨rw11, nx1, b1, bt1, kn1, en1, ⟨h19_129, h20_129, h21_129, h22_129, hb_129, hbl_129, hb3_129⟩, hF127, hgrw11, hgnx1, (by first | assumption | exact KX_i (by assumption) (by omega) (by first | rfl | assumption))⟩⟩
                      · refine J_aload_n (pc := 154) dX8_isSoundNow_154 rfl rfl rfl ?_
                        refine J_bipush (pc := 155) (v := nI 63) dX8_isSoundNow_155 (by decide) ?_
                        refine J_iconst (pc := 157) (v := nI 2) dX8_isSoundNow_157 (by decide) ?_
                        refine J_callV0 (pc := 158) (M := mX8_isSoundNow) (as := [.int (nI 63), .int (nI 2)]) dX8_isSoundNow_158 fw_X8_byThoseThatStay fl_X8_197 fm_X8_byThoseThatStay fe_X8_byThoseThatStay h19_129 (by decide) rfl rfl rfl (c_X8_byThoseThatStay_atk hs (d := d - 1) (Nat.le_trans (by decide) hdm) (w := w125) (n := n) (mv := mv) (rw := rw11) (nx := nx1) (b := b1) (bt := bt1) (kn := kn1) (en := en1) (dn := dn) (rf := rf) (kk := kk) (th := th) ⟨h19_129, h20_129, h21_129, h22_129, hb_129, hbl_129, hb3_129⟩ hn1 hn2 gm hgrw11 hgnx1 63 (nI 2) (by first | assumption | omega) (by first | assumption | omega) (by first | assumption | omega) (by first | assumption | omega) (kc := 0) (ks := 0)) hdp (st := []) (Nat.le_of_ble_eq_true rfl) rfl (kr_I fun v134 w134 hv134 hw134 => ?_) kx_I
                        obtain ⟨rw134, hR134, hFc134, hgrw134⟩ := hw134
                        obtain ⟨h19_134, h20_134, h21_134, h22_134, hbb_134, hbl_134, hb3_134⟩ := hR134
                        have hF134 := hF127.tr hFc134
                        refine J_aload_n (pc := 161) dX8_isSoundNow_161 rfl rfl rfl ?_
                        refine J_bipush (pc := 162) (v := nI 63) dX8_isSoundNow_162 (by decide) ?_
                        refine J_iconst (pc := 164) (v := nI 2) dX8_isSoundNow_164 (by decide) ?_
                        refine J_callV (pc := 165) (M := mX8_isSoundNow) (as := [.int (nI 63), .int (nI 2)]) dX8_isSoundNow_165 fw_X8_oneByOne fl_X8_200 fm_X8_oneByOne fe_X8_oneByOne h19_134 (by decide) rfl rfl rfl (c_X8_oneByOne hs (d := d - 1) (Nat.le_trans (by decide) hdm) (w := w134) (n := n) (mv := mv) (rw := rw134) (nx := nx1) (b := b1) (bt := bt1) (kn := kn1) (en := en1) (dn := dn) (rf := rf) (kk := kk) (th := th) ⟨h19_134, h20_134, h21_134, h22_134, hbb_134, hbl_134, hb3_134⟩ hn1 hn2 gm hgrw134 hgnx1 63 2 (by first | assumption | omega) (by first | assumption | omega) (by first | assumption | omega) (by first | assumption | omega) (kc := 2) (ks := 4374) (Nat.le_refl _) (Nat.le_refl _)) hdp (by omega) (by omega) (st := [.int v134]) (Nat.le_of_ble_eq_true rfl) rfl (kr_I fun v135 w135 hv135 hw135 => ?_) kx_I
                        obtain ⟨nx135, hR135, hFc135, hgnx135⟩ := hw135
                        obtain ⟨h19_135, h20_135, h21_135, h22_135, hbb_135, hbl_135, hb3_135⟩ := hR135
                        have hF135 := hF134.tr hFc135
                        refine J_icmp_ne (pc := 168) (tgt := 175) dX8_isSoundNow_168 (by decide) (fun ht136 => ?_) (fun hf137 => ?_)
                        · refine J_iconst (pc := 175) (v := nI 0) dX8_isSoundNow_175 (by decide) ?_
                          exact J_zret (pc := 176) dX8_isSoundNow_176 rfl (nar_b (by first | decide | omega)) ⟨⟨0, rfl, by omega⟩, ⟨rw134, nx135, b1, bt1, kn1, en1, ⟨h19_135, h20_135, h21_135, h22_135, hbb_135, hbl_135, hb3_135⟩, hF135, hgrw134, hgnx135, (by first | assumption | exact KX_i (by assumption) (by omega) (by first | rfl | assumption))⟩⟩
                        · refine J_iconst (pc := 171) (v := nI 1) dX8_isSoundNow_171 (by decide) ?_
                          refine J_goto (pc := 172) (tgt := 176) dX8_isSoundNow_172 (by decide) ?_
                          exact J_zret (pc := 176) dX8_isSoundNow_176 rfl (nar_b (by first | decide | omega)) ⟨⟨1, rfl, by omega⟩, ⟨rw134, nx135, b1, bt1, kn1, en1, ⟨h19_135, h20_135, h21_135, h22_135, hbb_135, hbl_135, hb3_135⟩, hF135, hgrw134, hgnx135, (by first | assumption | exact KX_i (by assumption) (by omega) (by first | rfl | assumption))⟩⟩
                    · refine J_iload (pc := 102) dX8_isSoundNow_102 rfl ?_
                      refine J_if_eqN (pc := 104) (tgt := 140) dX8_isSoundNow_104 (by decide) (by omega) (fun ht138 => ?_) (fun hf139 => ?_)
                      · refine J_iconst (pc := 140) (v := nI 0) dX8_isSoundNow_140 (by decide) ?_
                        refine J_istore (pc := 141) dX8_isSoundNow_141 (by decide) rfl ?_
                        show J X mX8_isSoundNow d (kc - 13) (ks - 2054) 143 [some (.ref 19), some (.int (nI k1)), some (.int z2), some (.int v11), some (.int (nI 0)), some (.int (nI c5))] [] w125 _
                        refine J_iincN (pc := 143) (b := 1) dX8_isSoundNow_143 rfl (by decide) (by decide) rfl ?_
                        show J X mX8_isSoundNow d (kc - 13) (ks - 2054) 146 [some (.ref 19), some (.int (nI k1)), some (.int z2), some (.int v11), some (.int (nI 0)), some (.int (nI (c5 + 1)))] [] w125 _
                        refine J_goto (pc := 146) (tgt := 95) dX8_isSoundNow_146 (by decide) ?_
                        exact J_sub (L' := [some (.ref 19), some (.int (nI k1)), some (.int z2), some (.int v11), some (.int (nI 0)), some (.int (nI (c5 + 1)))]) ⟨rfl, ⟨rfl, ⟨rfl, ⟨rfl, ⟨rfl, ⟨rfl, trivial⟩⟩⟩⟩⟩⟩ (ihlp95_124 w125 0 (c5 + 1) ⟨h19_129, h20_129, h21_129, h22_129, hb_129, hbl_129, hb3_129⟩ hF127 (by first | assumption | omega) (by first | assumption | omega) (by omega))
                      · refine J_aload_n (pc := 107) dX8_isSoundNow_107 rfl rfl rfl ?_
                        refine J_bipush (pc := 108) (v := nI 63) dX8_isSoundNow_108 (by decide) ?_
                        refine J_iload (pc := 110) dX8_isSoundNow_110 rfl ?_
                        refine J_callV0 (pc := 112) (M := mX8_isSoundNow) (as := [.int (nI 63), .int (nI c5)]) dX8_isSoundNow_112 fw_X8_isInNow fl_X8_185 fm_X8_isInNow fe_X8_isInNow h19_129 (by decide) rfl rfl rfl (c_X8_isInNow_atk hs (d := d - 1) (Nat.le_trans (by decide) hdm) (w := w125) (n := n) (mv := mv) (rw := rw11) (nx := nx1) (b := b1) (bt := bt1) (kn := kn1) (en := en1) (dn := dn) (rf := rf) (kk := kk) (th := th) ⟨h19_129, h20_129, h21_129, h22_129, hb_129, hbl_129, hb3_129⟩ hn1 hn2 gm hgrw11 hgnx1 63 c5 (by first | assumption | omega) (by first | assumption | omega) (by first | assumption | omega) (by first | assumption | omega) (by first | assumption | omega) (kc := 0) (ks := 0)) hdp (st := []) (Nat.le_of_ble_eq_true rfl) rfl (kr_I fun v140 w140 hv140 hw140 => ?_) kx_I
                        obtain ⟨hR140, hFc140⟩ := hw140
                        obtain ⟨h19_140, h20_140, h21_140, h22_140, hbb_140, hbl_140, hb3_140⟩ := hR140
                        have hF140 := hF127.tr hFc140
                        obtain ⟨k140, rfl, hk140⟩ := hv140
                        refine J_if_eqN (pc := 115) (tgt := 140) dX8_isSoundNow_115 (by decide) (by omega) (fun ht141 => ?_) (fun hf142 => ?_)
                        · refine J_iconst (pc := 140) (v := nI 0) dX8_isSoundNow_140 (by decide) ?_
                          refine J_istore (pc := 141) dX8_isSoundNow_141 (by decide) rfl ?_
                          show J X mX8_isSoundNow d (kc - 13) (ks - 2054) 143 [some (.ref 19), some (.int (nI k1)), some (.int z2), some (.int v11), some (.int (nI 0)), some (.int (nI c5))] [] w140 _
                          refine J_iincN (pc := 143) (b := 1) dX8_isSoundNow_143 rfl (by decide) (by decide) rfl ?_
                          show J X mX8_isSoundNow d (kc - 13) (ks - 2054) 146 [some (.ref 19), some (.int (nI k1)), some (.int z2), some (.int v11), some (.int (nI 0)), some (.int (nI (c5 + 1)))] [] w140 _
                          refine J_goto (pc := 146) (tgt := 95) dX8_isSoundNow_146 (by decide) ?_
                          exact J_sub (L' := [some (.ref 19), some (.int (nI k1)), some (.int z2), some (.int v11), some (.int (nI 0)), some (.int (nI (c5 + 1)))]) ⟨rfl, ⟨rfl, ⟨rfl, ⟨rfl, ⟨rfl, ⟨rfl, trivial⟩⟩⟩⟩⟩⟩ (ihlp95_124 w140 0 (c5 + 1) ⟨h19_140, h20_140, h21_140, h22_140, hbb_140, hbl_140, hb3_140⟩ hF140 (by first | assumption | omega) (by first | assumption | omega) (by omega))
                        · refine J_iload_n (pc := 118) dX8_isSoundNow_118 rfl rfl ?_
                          refine J_aload_n (pc := 119) dX8_isSoundNow_119 rfl rfl rfl ?_
                          refine J_aload_n (pc := 120) dX8_isSoundNow_120 rfl rfl rfl ?_
                          refine J_get (pc := 121) (k := 1) dX8_isSoundNow_121 kC9 (by decide) ff_X8_13 h19_140 rfl ?_
                          refine J_iload (pc := 124) dX8_isSoundNow_124 rfl ?_
                          refine J_bipush (pc := 126) (v := nI 7) dX8_isSoundNow_126 (by decide) ?_
                          refine J_imulN (pc := 128) dX8_isSoundNow_128 ?_
                          refine J_callV0 (pc := 129) (M := mX8_isSoundNow) (as := [.ref 20, .int (nI (c5 * 7))]) dX8_isSoundNow_129 fw_X8_orderOf fl_X8_172 fm_X8_orderOf fe_X8_orderOf h19_140 (by decide) rfl rfl rfl (c_X8_orderOf_at20 hs (d := d - 1) (Nat.le_trans (by decide) hdm) (w := w140) (n := n) (mv := mv) (rw := rw11) (nx := nx1) (b := b1) (bt := bt1) (kn := kn1) (en := en1) (dn := dn) (rf := rf) (kk := kk) (th := th) ⟨h19_140, h20_140, h21_140, h22_140, hbb_140, hbl_140, hb3_140⟩ hn1 hn2 gm hgrw11 hgnx1 (c5 * 7) (by first | assumption | omega) (by exact hy0 c5 (by omega)) (kc := 0) (ks := 0)) hdp (st := [.int (nI k1)]) (Nat.le_of_ble_eq_true rfl) rfl (kr_P fun v143 hv143 => ?_) kx_I
                          obtain ⟨k143, rfl, hk143⟩ := hv143
                          have hm144 := Nat.mod_lt k1 (show 0 < k143 by omega)
                          have hm145 := Nat.div_le_self k1 k143
                          refine J_iremN (pc := 132) dX8_isSoundNow_132 (by omega) (by omega) (by omega) ?_
                          refine J_if_neN (pc := 133) (tgt := 140) dX8_isSoundNow_133 (by decide) (by omega) (fun ht146 => ?_) (fun hf147 => ?_)
                          · refine J_iconst (pc := 140) (v := nI 0) dX8_isSoundNow_140 (by decide) ?_
                            refine J_istore (pc := 141) dX8_isSoundNow_141 (by decide) rfl ?_
                            show J X mX8_isSoundNow d (kc - 13) (ks - 2054) 143 [some (.ref 19), some (.int (nI k1)), some (.int z2), some (.int v11), some (.int (nI 0)), some (.int (nI c5))] [] w140 _
                            refine J_iincN (pc := 143) (b := 1) dX8_isSoundNow_143 rfl (by decide) (by decide) rfl ?_
                            show J X mX8_isSoundNow d (kc - 13) (ks - 2054) 146 [some (.ref 19), some (.int (nI k1)), some (.int z2), some (.int v11), some (.int (nI 0)), some (.int (nI (c5 + 1)))] [] w140 _
                            refine J_goto (pc := 146) (tgt := 95) dX8_isSoundNow_146 (by decide) ?_
                            exact J_sub (L' := [some (.ref 19), some (.int (nI k1)), some (.int z2), some (.int v11), some (.int (nI 0)), some (.int (nI (c5 + 1)))]) ⟨rfl, ⟨rfl, ⟨rfl, ⟨rfl, ⟨rfl, ⟨rfl, trivial⟩⟩⟩⟩⟩⟩ (ihlp95_124 w140 0 (c5 + 1) ⟨h19_140, h20_140, h21_140, h22_140, hbb_140, hbl_140, hb3_140⟩ hF140 (by first | assumption | omega) (by first | assumption | omega) (by omega))
                          · refine J_iconst (pc := 136) (v := nI 1) dX8_isSoundNow_136 (by decide) ?_
                            refine J_goto (pc := 137) (tgt := 141) dX8_isSoundNow_137 (by decide) ?_
                            refine J_istore (pc := 141) dX8_isSoundNow_141 (by decide) rfl ?_
                            show J X mX8_isSoundNow d (kc - 13) (ks - 2054) 143 [some (.ref 19), some (.int (nI k1)), some (.int z2), some (.int v11), some (.int (nI 1)), some (.int (nI c5))] [] w140 _
                            refine J_iincN (pc := 143) (b := 1) dX8_isSoundNow_143 rfl (by decide) (by decide) rfl ?_
                            show J X mX8_isSoundNow d (kc - 13) (ks - 2054) 146 [some (.ref 19), some (.int (nI k1)), some (.int z2), some (.int v11), some (.int (nI 1)), some (.int (nI (c5 + 1)))] [] w140 _
                            refine J_goto (pc := 146) (tgt := 95) dX8_isSoundNow_146 (by decide) ?_
                            exact J_sub (L' := [some (.ref 19), some (.int (nI k1)), some (.int z2), some (.int v11), some (.int (nI 1)), some (.int (nI (c5 + 1)))]) ⟨rfl, ⟨rfl, ⟨rfl, ⟨rfl, ⟨rfl, ⟨rfl, trivial⟩⟩⟩⟩⟩⟩ (ihlp95_124 w140 1 (c5 + 1) ⟨h19_140, h20_140, h21_140, h22_140, hbb_140, hbl_140, hb3_140⟩ hF140 (by first | assumption | omega) (by first | assumption | omega) (by omega))
                exact J_sub (L' := [some (.ref 19), some (.int (nI k1)), some (.int z2), some (.int v11), some (.int (nI 0)), some (.int (nI 0))]) ⟨rfl, ⟨rfl, ⟨rfl, ⟨rfl, ⟨rfl, ⟨rfl, trivial⟩⟩⟩⟩⟩⟩ (lp95_124 _ w11 0 0 ⟨h19_11, h20_11, h21_11, h22_11, hbb_11, hbl_11, hb3_11⟩ hF11 (by first | assumption | omega) (by first | assumption | omega) (Nat.lt_succ_self _))
              · refine J_iload_n (pc := 72) dX8_isSoundNow_72 rfl rfl ?_
                refine J_iconst (pc := 73) (v := nI 1) dX8_isSoundNow_73 (by decide) ?_
                refine J_aload_n (pc := 74) dX8_isSoundNow_74 rfl rfl rfl ?_
                refine J_get (pc := 75) (k := 6) dX8_isSoundNow_75 kC9 (by decide) ff_X8_85 h19_11 rfl ?_
                refine J_callS0 (pc := 78) (M := mX8_isSoundNow) (as := [.int en1]) dX8_isSoundNow_78 fw_J6_bitCount_0f7a4 fl_X8_96 fs_J6_bitCount_0f7a4 rfl (c_J6_bitCount_0f7a4 hs (d := d - 1) (Nat.le_trans (by decide) hdm) (w := w11) en1 (kc := 0) (ks := 0)) hdp (st := [.int (nI 1), .int (nI k1)]) (Nat.le_of_ble_eq_true rfl) rfl (kr_P fun v148 hv148 => ?_) kx_I
                obtain ⟨k148, rfl, hk148⟩ := hv148
                refine J_ishl (pc := 81) dX8_isSoundNow_81 (J_absI fun x149 => ?_)
                refine J_icmp_ltI (pc := 82) (tgt := 89) dX8_isSoundNow_82 (by decide) (by omega) (fun ht150 => ?_) (fun hf151 => ?_)
                · refine J_iconst (pc := 89) (v := nI 0) dX8_isSoundNow_89 (by decide) ?_
                  refine J_istore (pc := 90) dX8_isSoundNow_90 (by decide) rfl ?_
                  show J X mX8_isSoundNow d (kc - 13) (ks - 2054) 92 [some (.ref 19), some (.int (nI k1)), some (.int z2), some (.int v11), some (.int (nI 0)), none] [] w11 _
                  refine J_iconst (pc := 92) (v := nI 0) dX8_isSoundNow_92 (by decide) ?_
                  refine J_istore (pc := 93) dX8_isSoundNow_93 (by decide) rfl ?_
                  show J X mX8_isSoundNow d (kc - 13) (ks - 2054) 95 [some (.ref 19), some (.int (nI k1)), some (.int z2), some (.int v11), some (.int (nI 0)), some (.int (nI 0))] [] w11 _
                  have lp95_152 : ∀ (fuel : Nat) (w153 : List jC) (y4 : Nat) (c5 : Nat), (RM n mv rw11 nx1 b1 bt1 kn1 en1 dn rf kk th w153) → (FR b b1 w w153) → (y4 < 2) → (c5 ≤ 6) → (6 - c5 < fuel) → J X mX8_isSoundNow d (kc - 13) (ks - 2054) 95 [some (.ref 19), some (.int (nI k1)), some (.int z2), some (.int v11), some (.int (nI y4)), some (.int (nI c5))] [] w153 (pI (fun v => ∃ k : Nat, v = nI k ∧ k < 2) (fun w' => ∃ (rw' : Nat → Nat), ∃ (nx' : Nat → Nat), ∃ (b' : Nat), ∃ (bt' : List Int32), ∃ (kn' : Int32), ∃ (en' : Int32), RM n mv rw' nx' b' bt' kn' en' dn rf kk th w' ∧ FR b b' w w' ∧ (∀ i, rw' i < 7) ∧ (∀ i, nx' i < 7) ∧ KX n mv kn' bt')) := by
                    intro fuellp95_152
                    induction fuellp95_152 with
                    | zero => intros; omega
                    | succ fuellp95_152 ihlp95_152 =>
                      intro w153 y4 c5 hR154 hF155 hv95_0 hv95_1 hf156
                      obtain ⟨h19_157, h20_157, h21_157, h22_157, hb_157, hbl_157, hb3_157⟩ := hR154
                      refine J_iload (pc := 95) dX8_isSoundNow_95 rfl ?_
                      refine J_bipush (pc := 97) (v := nI 6) dX8_isSoundNow_97 (by decide) ?_
                      refine J_icmp_geN (pc := 99) (tgt := 149) dX8_isSoundNow_99 (by decide) (by omega) (by omega) (fun ht158 => ?_) (fun hf159 => ?_)
                      · refine J_iload (pc := 149) dX8_isSoundNow_149 rfl ?_
                        refine J_if_eqN (pc := 151) (tgt := 175) dX8_isSoundNow_151 (by decide) (by omega) (fun ht160 => ?_) (fun hf161 => ?_)
                        · refine J_iconst (pc := 175) (v := nI 0) dX8_isSoundNow_175 (by decide) ?_
                          exact J_zret (pc := 176) dX8_isSoundNow_176 rfl (nar_b (by first | decide | omega)) ⟨⟨0, rfl, by omega⟩, ⟨rw11, nx1, b1, bt1, kn1, en1, ⟨h19_157, h20_157, h21_157, h22_157, hb_157, hbl_157, hb3_157⟩, hF155, hgrw11, hgnx1, (by first | assumption | exact KX_i (by assumption) (by omega) (by first | rfl | assumption))⟩⟩
                        · refine J_aload_n (pc := 154) dX8_isSoundNow_154 rfl rfl rfl ?_
                          refine J_bipush (pc := 155) (v := nI 63) dX8_isSoundNow_155 (by decide) ?_
                          refine J_iconst (pc := 157) (v := nI 2) dX8_isSoundNow_157 (by decide) ?_
                          refine J_callV0 (pc := 158) (M := mX8_isSoundNow) (as := [.int (nI 63), .int (nI 2)]) dX8_isSoundNow_158 fw_X8_byThoseThatStay fl_X8_197 fm_X8_byThoseThatStay fe_X8_byThoseThatStay h19_157 (by decide) rfl rfl rfl (c_X8_byThoseThatStay_atk hs (d := d - 1) (Nat.le_trans (by decide) hdm) (w := w153) (n := n) (mv := mv) (rw := rw11) (nx := nx1) (b := b1) (bt := bt1) (kn := kn1) (en := en1) (dn := dn) (rf := rf) (kk := kk) (th := th) ⟨h19_157, h20_157, h21_157, h22_157, hb_157, hbl_157, hb3_157⟩ hn1 hn2 gm hgrw11 hgnx1 63 (nI 2) (by first | assumption | omega) (by first | assumption | omega) (by first | assumption | omega) (by first | assumption | omega) (kc := 0) (ks := 0)) hdp (st := []) (Nat.le_of_ble_eq_true rfl) rfl (kr_I fun v162 w162 hv162 hw162 => ?_) kx_I
                          obtain ⟨rw162, hR162, hFc162, hgrw162⟩ := hw162
                          obtain ⟨h19_162, h20_162, h21_162, h22_162, hbb_162, hbl_162, hb3_162⟩ := hR162
                          have hF162 := hF155.tr hFc162
                          refine J_aload_n (pc := 161) dX8_isSoundNow_161 rfl rfl rfl ?_
                          refine J_bipush (pc := 162) (v := nI 63) dX8_isSoundNow_162 (by decide) ?_
                          refine J_iconst (pc := 164) (v := nI 2) dX8_isSoundNow_164 (by decide) ?_
                          refine J_callV (pc := 165) (M := mX8_isSoundNow) (as := [.int (nI 63), .int (nI 2)]) dX8_isSoundNow_165 fw_X8_oneByOne fl_X8_200 fm_X8_oneByOne fe_X8_oneByOne h19_162 (by decide) rfl rfl rfl (c_X8_oneByOne hs (d := d - 1) (Nat.le_trans (by decide) hdm) (w := w162) (n := n) (mv := mv) (rw := rw162) (nx := nx1) (b := b1) (bt := bt1) (kn := kn1) (en := en1) (dn := dn) (rf := rf) (kk := kk) (th := th) ⟨h19_162, h20_162, h21_162, h22_162, hbb_162, hbl_162, hb3_162⟩ hn1 hn2 gm hgrw162 hgnx1 63 2 (by first | assumption | omega) (by first | assumption | omega) (by first | assumption | omega) (by first | assumption | omega) (kc := 2) (ks := 4374) (Nat.le_refl _) (Nat.le_refl _)) hdp (by omega) (by omega) (st := [.int v162]) (Nat.le_of_ble_eq_true rfl) rfl (kr_I fun v163 w163 hv163 hw163 => ?_) kx_I
                          obtain ⟨nx163, hR163, hFc163, hgnx163⟩ := hw163
                          obtain ⟨h19_163, h20_163, h21_163, h22_163, hbb_163, hbl_163, hb3_163⟩ := hR163
                          have hF163 := hF162.tr hFc163
                          refine J_icmp_ne (pc := 168) (tgt := 175) dX8_isSoundNow_168 (by decide) (fun ht164 => ?_) (fun hf165 => ?_)
                          · refine J_iconst (pc := 175) (v := nI 0) dX8_isSoundNow_175 (by decide) ?_
                            exact J_zret (pc := 176) dX8_isSoundNow_176 rfl (nar_b (by first | decide | omega)) ⟨⟨0, rfl, by omega⟩, ⟨rw162, nx163, b1, bt1, kn1, en1, ⟨h19_163, h20_163, h21_163, h22_163, hbb_163, hbl_163, hb3_163⟩, hF163, hgrw162, hgnx163, (by first | assumption | exact KX_i (by assumption) (by omega) (by first | rfl | assumption))⟩⟩
                          · refine J_iconst (pc := 171) (v := nI 1) dX8_isSoundNow_171 (by decide) ?_
                            refine J_goto (pc := 172) (tgt := 176) dX8_isSoundNow_172 (by decide) ?_
                            exact J_zret (pc := 176) dX8_isSoundNow_176 rfl (nar_b (by first | decide | omega)) ⟨⟨1, rfl, by omega⟩, ⟨rw162, nx163, b1, bt1, kn1, en1, ⟨h19_163, h20_163, h21_163, h22_163, hbb_163, hbl_163, hb3_163⟩, hF163, hgrw162, hgnx163, (by first | assumption | exact KX_i (by assumption) (by omega) (by first | rfl | assumption))⟩⟩
                      · refine J_iload (pc := 102) dX8_isSoundNow_102 rfl ?_
                        refine J_if_eqN (pc := 104) (tgt := 140) dX8_isSoundNow_104 (by decide) (by omega) (fun ht166 => ?_) (fun hf167 => ?_)
                        · refine J_iconst (pc := 140) (v := nI 0) dX8_isSoundNow_140 (by decide) ?_
                          refine J_istore (pc := 141) dX8_isSoundNow_141 (by decide) rfl ?_
                          show J X mX8_isSoundNow d (kc - 13) (ks - 2054) 143 [some (.ref 19), some (.int (nI k1)), some (.int z2), some (.int v11), some (.int (nI 0)), some (.int (nI c5))] [] w153 _
                          refine J_iincN (pc := 143) (b := 1) dX8_isSoundNow_143 rfl (by decide) (by decide) rfl ?_
                          show J X mX8_isSoundNow d (kc - 13) (ks - 2054) 146 [some (.ref 19), some (.int (nI k1)), some (.int z2), some (.int v11), some (.int (nI 0)), some (.int (nI (c5 + 1)))] [] w153 _
                          refine J_goto (pc := 146) (tgt := 95) dX8_isSoundNow_146 (by decide) ?_
                          exact J_sub (L' := [some (.ref 19), some (.int (nI k1)), some (.int z2), some (.int v11), some (.int (nI 0)), some (.int (nI (c5 + 1)))]) ⟨rfl, ⟨rfl, ⟨rfl, ⟨rfl, ⟨rfl, ⟨rfl, trivial⟩⟩⟩⟩⟩⟩ (ihlp95_152 w153 0 (c5 + 1) ⟨h19_157, h20_157, h21_157, h22_157, hb_157, hbl_157, hb3_157⟩ hF155 (by first | assumption | omega) (by first | assumption | omega) (by omega))
                        · refine J_aload_n (pc := 107) dX8_isSoundNow_107 rfl rfl rfl ?_
                          refine J_bipush (pc := 108) (v := nI 63) dX8_isSoundNow_108 (by decide) ?_
                          refine J_iload (pc := 110) dX8_isSoundNow_110 rfl ?_
                          refine J_callV0 (pc := 112) (M := mX8_isSoundNow) (as := [.int (nI 63), .int (nI c5)]) dX8_isSoundNow_112 fw_X8_isInNow fl_X8_185 fm_X8_isInNow fe_X8_isInNow h19_157 (by decide) rfl rfl rfl (c_X8_isInNow_atk hs (d := d - 1) (Nat.le_trans (by decide) hdm) (w := w153) (n := n) (mv := mv) (rw := rw11) (nx := nx1) (b := b1) (bt := bt1) (kn := kn1) (en := en1) (dn := dn) (rf := rf) (kk := kk) (th := th) ⟨h19_157, h20_157, h21_157, h22_157, hb_157, hbl_157, hb3_157⟩ hn1 hn2 gm hgrw11 hgnx1 63 c5 (by first | assumption | omega) (by first | assumption | omega) (by first | assumption | omega) (by first | assumption | omega) (by first | assumption | omega) (kc := 0) (ks := 0)) hdp (st := []) (Nat.le_of_ble_eq_true rfl) rfl (kr_I fun v168 w168 hv168 hw168 => ?_) kx_I
                          obtain ⟨hR168, hFc168⟩ := hw168
                          obtain ⟨h19_168, h20_168, h21_168, h22_168, hbb_168, hbl_168, hb3_168⟩ := hR168
                          have hF168 := hF155.tr hFc168
                          obtain ⟨k168, rfl, hk168⟩ := hv168
                          refine J_if_eqN (pc := 115) (tgt := 140) dX8_isSoundNow_115 (by decide) (by omega) (fun ht169 => ?_) (fun hf170 => ?_)
                          · refine J_iconst (pc := 140) (v := nI 0) dX8_isSoundNow_140 (by decide) ?_
                            refine J_istore (pc := 141) dX8_isSoundNow_141 (by decide) rfl ?_
                            show J X mX8_isSoundNow d (kc - 13) (ks - 2054) 143 [some (.ref 19), some (.int (nI k1)), some (.int z2), some (.int v11), some (.int (nI 0)), some (.int (nI c5))] [] w168 _
                            refine J_iincN (pc := 143) (b := 1) dX8_isSoundNow_143 rfl (by decide) (by decide) rfl ?_
                            show J X mX8_isSoundNow d (kc - 13) (ks - 2054) 146 [some (.ref 19), some (.int (nI k1)), some (.int z2), some (.int v11), some (.int (nI 0)), some (.int (nI (c5 + 1)))] [] w168 _
                            refine J_goto (pc := 146) (tgt := 95) dX8_isSoundNow_146 (by decide) ?_
                            exact J_sub (L' := [some (.ref 19), some (.int (nI k1)), some (.int z2), some (.int v11), some (.int (nI 0)), some (.int (nI (c5 + 1)))]) ⟨rfl, ⟨rfl, ⟨rfl, ⟨rfl, ⟨rfl, ⟨rfl, trivial⟩⟩⟩⟩⟩⟩ (ihlp95_152 w168 0 (c5 + 1) ⟨h19_168, h20_168, h21_168, h22_168, hbb_168, hbl_168, hb3_168⟩ hF168 (by first | assumption | omega) (by first | assumption | omega) (by omega))
                          · refine J_iload_n (pc := 118) dX8_isSoundNow_118 rfl rfl ?_
                            refine J_aload_n (pc := 119) dX8_isSoundNow_119 rfl rfl rfl ?_
                            refine J_aload_n (pc := 120) dX8_isSoundNow_120 rfl rfl rfl ?_
                            refine J_get (pc := 121) (k := 1) dX8_isSoundNow_121 kC9 (by decide) ff_X8_13 h19_168 rfl ?_
                            refine J_iload (pc := 124) dX8_isSoundNow_124 rfl ?_
                            refine J_bipush (pc := 126) (v := nI 7) dX8_isSoundNow_126 (by decide) ?_
                            refine J_imulN (pc := 128) dX8_isSoundNow_128 ?_
                            refine J_callV0 (pc := 129) (M := mX8_isSoundNow) (as := [.ref 20, .int (nI (c5 * 7))]) dX8_isSoundNow_129 fw_X8_orderOf fl_X8_172 fm_X8_orderOf fe_X8_orderOf h19_168 (by decide) rfl rfl rfl (c_X8_orderOf_at20 hs (d := d - 1) (Nat.le_trans (by decide) hdm) (w := w168) (n := n) (mv := mv) (rw := rw11) (nx := nx1) (b := b1) (bt := bt1) (kn := kn1) (en := en1) (dn := dn) (rf := rf) (kk := kk) (th := th) ⟨h19_168, h20_168, h21_168, h22_168, hbb_168, hbl_168, hb3_168⟩ hn1 hn2 gm hgrw11 hgnx1 (c5 * 7) (by first | assumption | omega) (by exact hy0 c5 (by omega)) (kc := 0) (ks := 0)) hdp (st := [.int (nI k1)]) (Nat.le_of_ble_eq_true rfl) rfl (kr_P fun v171 hv171 => ?_) kx_I
                            obtain ⟨k171, rfl, hk171⟩ := hv171
                            have hm172 := Nat.mod_lt k1 (show 0 < k171 by omega)
                            have hm173 := Nat.div_le_self k1 k171
                            refine J_iremN (pc := 132) dX8_isSoundNow_132 (by omega) (by omega) (by omega) ?_
                            refine J_if_neN (pc := 133) (tgt := 140) dX8_isSoundNow_133 (by decide) (by omega) (fun ht174 => ?_) (fun hf175 => ?_)
                            · refine J_iconst (pc := 140) (v := nI 0) dX8_isSoundNow_140 (by decide) ?_
                              refine J_istore (pc := 141) dX8_isSoundNow_141 (by decide) rfl ?_
                              show J X mX8_isSoundNow d (kc - 13) (ks - 2054) 143 [some (.ref 19), some (.int (nI k1)), some (.int z2), some (.int v11), some (.int (nI 0)), some (.int (nI c5))] [] w168 _
                              refine J_iincN (pc := 143) (b := 1) dX8_isSoundNow_143 rfl (by decide) (by decide) rfl ?_
                              show J X mX8_isSoundNow d (kc - 13) (ks - 2054) 146 [some (.ref 19), some (.int (nI k1)), some (.int z2), some (.int v11), some (.int (nI 0)), some (.int (nI (c5 + 1)))] [] w168 _
                              refine J_goto (pc := 146) (tgt := 95) dX8_isSoundNow_146 (by decide) ?_
                              exact J_sub (L' := [some (.ref 19), some (.int (nI k1)), some (.int z2), some (.int v11), some (.int (nI 0)), some (.int (nI (c5 + 1)))]) ⟨rfl, ⟨rfl, ⟨rfl, ⟨rfl, ⟨rfl, ⟨rfl, trivial⟩⟩⟩⟩⟩⟩ (ihlp95_152 w168 0 (c5 + 1) ⟨h19_168, h20_168, h21_168, h22_168, hbb_168, hbl_168, hb3_168⟩ hF168 (by first | assumption | omega) (by first | assumption | omega) (by omega))
                            · refine J_iconst (pc := 136) (v := nI 1) dX8_isSoundNow_136 (by decide) ?_
                              refine J_goto (pc := 137) (tgt := 141) dX8_isSoundNow_137 (by decide) ?_
                              refine J_istore (pc := 141) dX8_isSoundNow_141 (by decide) rfl ?_
                              show J X mX8_isSoundNow d (kc - 13) (ks - 2054) 143 [some (.ref 19), some (.int (nI k1)), some (.int z2), some (.int v11), some (.int (nI 1)), some (.int (nI c5))] [] w168 _
                              refine J_iincN (pc := 143) (b := 1) dX8_isSoundNow_143 rfl (by decide) (by decide) rfl ?_
                              show J X mX8_isSoundNow d (kc - 13) (ks - 2054) 146 [some (.ref 19), some (.int (nI k1)), some (.int z2), some (.int v11), some (.int (nI 1)), some (.int (nI (c5 + 1)))] [] w168 _
                              refine J_goto (pc := 146) (tgt := 95) dX8_isSoundNow_146 (by decide) ?_
                              exact J_sub (L' := [some (.ref 19), some (.int (nI k1)), some (.int z2), some (.int v11), some (.int (nI 1)), some (.int (nI (c5 + 1)))]) ⟨rfl, ⟨rfl, ⟨rfl, ⟨rfl, ⟨rfl, ⟨rfl, trivial⟩⟩⟩⟩⟩⟩ (ihlp95_152 w168 1 (c5 + 1) ⟨h19_168, h20_168, h21_168, h22_168, hbb_168, hbl_168, hb3_168⟩ hF168 (by first | assumption | omega) (by first | assumption | omega) (by omega))
                  exact J_sub (L' := [some (.ref 19), some (.int (nI k1)), some (.int z2), some (.int v11), some (.int (nI 0)), some (.int (nI 0))]) ⟨rfl, ⟨rfl, ⟨rfl, ⟨rfl, ⟨rfl, ⟨rfl, trivial⟩⟩⟩⟩⟩⟩ (lp95_152 _ w11 0 0 ⟨h19_11, h20_11, h21_11, h22_11, hbb_11, hbl_11, hb3_11⟩ hF11 (by first | assumption | omega) (by first | assumption | omega) (Nat.lt_succ_self _))
                · refine J_iconst (pc := 85) (v := nI 1) dX8_isSoundNow_85 (by decide) ?_
                  refine J_goto (pc := 86) (tgt := 90) dX8_isSoundNow_86 (by decide) ?_
                  refine J_istore (pc := 90) dX8_isSoundNow_90 (by decide) rfl ?_
                  show J X mX8_isSoundNow d (kc - 13) (ks - 2054) 92 [some (.ref 19), some (.int (nI k1)), some (.int z2), some (.int v11), some (.int (nI 1)), none] [] w11 _
                  refine J_iconst (pc := 92) (v := nI 0) dX8_isSoundNow_92 (by decide) ?_
                  refine J_istore (pc := 93) dX8_isSoundNow_93 (by decide) rfl ?_
                  show J X mX8_isSoundNow d (kc - 13) (ks - 2054) 95 [some (.ref 19), some (.int (nI k1)), some (.int z2), some (.int v11), some (.int (nI 1)), some (.int (nI 0))] [] w11 _
                  have lp95_176 : ∀ (fuel : Nat) (w177 : List jC) (y4 : Nat) (c5 : Nat), (RM n mv rw11 nx1 b1 bt1 kn1 en1 dn rf kk th w177) → (FR b b1 w w177) → (y4 < 2) → (c5 ≤ 6) → (6 - c5 < fuel) → J X mX8_isSoundNow d (kc - 13) (ks - 2054) 95 [some (.ref 19), some (.int (nI k1)), some (.int z2), some (.int v11), some (.int (nI y4)), some (.int (nI c5))] [] w177 (pI (fun v => ∃ k : Nat, v = nI k ∧ k < 2) (fun w' => ∃ (rw' : Nat → Nat), ∃ (nx' : Nat → Nat), ∃ (b' : Nat), ∃ (bt' : List Int32), ∃ (kn' : Int32), ∃ (en' : Int32), RM n mv rw' nx' b' bt' kn' en' dn rf kk th w' ∧ FR b b' w w' ∧ (∀ i, rw' i < 7) ∧ (∀ i, nx' i < 7) ∧ KX n mv kn' bt')) := by
                    intro fuellp95_176
                    induction fuellp95_176 with
                    | zero => intros; omega
                    | succ fuellp95_176 ihlp95_176 =>
                      intro w177 y4 c5 hR178 hF179 hv95_0 hv95_1 hf180
                      obtain ⟨h19_181, h20_181, h21_181, h22_181, hb_181, hbl_181, hb3_181⟩ := hR178
                      refine J_iload (pc := 95) dX8_isSoundNow_95 rfl ?_
                      refine J_bipush (pc := 97) (v := nI 6) dX8_isSoundNow_97 (by decide) ?_
                      refine J_icmp_geN (pc := 99) (tgt := 149) dX8_isSoundNow_99 (by decide) (by omega) (by omega) (fun ht182 => ?_) (fun hf183 => ?_)
                      · refine J_iload (pc := 149) dX8_isSoundNow_149 rfl ?_
                        refine J_if_eqN (pc := 151) (tgt := 175) dX8_isSoundNow_151 (by decide) (by omega) (fun ht184 => ?_) (fun hf185 => ?_)
                        · refine J_iconst (pc := 175) (v := nI 0) dX8_isSoundNow_175 (by decide) ?_
                          exact J_zret (pc := 176) dX8_isSoundNow_176 rfl (nar_b (by first | decide | omega)) ⟨⟨0, rfl, by omega⟩, ⟨rw11, nx1, b1, bt1, kn1, en1, ⟨h19_181, h20_181, h21_181, h22_181, hb_181, hbl_181, hb3_181⟩, hF179, hgrw11, hgnx1, (by first | assumption | exact KX_i (by assumption) (by omega) (by first | rfl | assumption))⟩⟩
                        · refine J_aload_n (pc := 154) dX8_isSoundNow_154 rfl rfl rfl ?_
                          refine J_bipush (pc := 155) (v := nI 63) dX8_isSoundNow_155 (by decide) ?_
                          refine J_iconst (pc := 157) (v := nI 2) dX8_isSoundNow_157 (by decide) ?_
                          refine J_callV0 (pc := 158) (M := mX8_isSoundNow) (as := [.int (nI 63), .int (nI 2)]) dX8_isSoundNow_158 fw_X8_byThoseThatStay fl_X8_197 fm_X8_byThoseThatStay fe_X8_byThoseThatStay h19_181 (by decide) rfl rfl rfl (c_X8_byThoseThatStay_atk hs (d := d - 1) (Nat.le_trans (by decide) hdm) (w := w177) (n := n) (mv := mv) (rw := rw11) (nx := nx1) (b := b1) (bt := bt1) (kn := kn1) (en := en1) (dn := dn) (rf := rf) (kk := kk) (th := th) ⟨h19_181, h20_181, h21_181, h22_181, hb_181, hbl_181, hb3_181⟩ hn1 hn2 gm hgrw11 hgnx1 63 (nI 2) (by first | assumption | omega) (by first | assumption | omega) (by first | assumption | omega) (by first | assumption | omega) (kc := 0) (ks := 0)) hdp (st := []) (Nat.le_of_ble_eq_true rfl) rfl (kr_I fun v186 w186 hv186 hw186 => ?_) kx_I
                          obtain ⟨rw186, hR186, hFc186, hgrw186⟩ := hw186
                          obtain ⟨h19_186, h20_186, h21_186, h22_186, hbb_186, hbl_186, hb3_186⟩ := hR186
                          have hF186 := hF179.tr hFc186
                          refine J_aload_n (pc := 161) dX8_isSoundNow_161 rfl rfl rfl ?_
                          refine J_bipush (pc := 162) (v := nI 63) dX8_isSoundNow_162 (by decide) ?_
                          refine J_iconst (pc := 164) (v := nI 2) dX8_isSoundNow_164 (by decide) ?_
                          refine J_callV (pc := 165) (M := mX8_isSoundNow) (as := [.int (nI 63), .int (nI 2)]) dX8_isSoundNow_165 fw_X8_oneByOne fl_X8_200 fm_X8_oneByOne fe_X8_oneByOne h19_186 (by decide) rfl rfl rfl (c_X8_oneByOne hs (d := d - 1) (Nat.le_trans (by decide) hdm) (w := w186) (n := n) (mv := mv) (rw := rw186) (nx := nx1) (b := b1) (bt := bt1) (kn := kn1) (en := en1) (dn := dn) (rf := rf) (kk := kk) (th := th) ⟨h19_186, h20_186, h21_186, h22_186, hbb_186, hbl_186, hb3_186⟩ hn1 hn2 gm hgrw186 hgnx1 63 2 (by first | assumption | omega) (by first | assumption | omega) (by first | assumption | omega) (by first | assumption | omega) (kc := 2) (ks := 4374) (Nat.le_refl _) (Nat.le_refl _)) hdp (by omega) (by omega) (st := [.int v186]) (Nat.le_of_ble_eq_true rfl) rfl (kr_I fun v187 w187 hv187 hw187 => ?_) kx_I
                          obtain ⟨nx187, hR187, hFc187, hgnx187⟩ := hw187
                          obtain ⟨h19_187, h20_187, h21_187, h22_187, hbb_187, hbl_187, hb3_187⟩ := hR187
                          have hF187 := hF186.tr hFc187
                          refine J_icmp_ne (pc := 168) (tgt := 175) dX8_isSoundNow_168 (by decide) (fun ht188 => ?_) (fun hf189 => ?_)
                          · refine J_iconst (pc := 175) (v := nI 0) dX8_isSoundNow_175 (by decide) ?_
                            exact J_zret (pc := 176) dX8_isSoundNow_176 rfl (nar_b (by first | decide | omega)) ⟨⟨0, rfl, by omega⟩, ⟨rw186, nx187, b1, bt1, kn1, en1, ⟨h19_187, h20_187, h21_187, h22_187, hbb_187, hbl_187, hb3_187⟩, hF187, hgrw186, hgnx187, (by first | assumption | exact KX_i (by assumption) (by omega) (by first | rfl | assumption))⟩⟩
                          · refine J_iconst (pc := 171) (v := nI 1) dX8_isSoundNow_171 (by decide) ?_
                            refine J_goto (pc := 172) (tgt := 176) dX8_isSoundNow_172 (by decide) ?_
                            exact J_zret (pc := 176) dX8_isSoundNow_176 rfl (nar_b (by first | decide | omega)) ⟨⟨1, rfl, by omega⟩, ⟨rw186, nx187, b1, bt1, kn1, en1, ⟨h19_187, h20_187, h21_187, h22_187, hbb_187, hbl_187, hb3_187⟩, hF187, hgrw186, hgnx187, (by first | assumption | exact KX_i (by assumption) (by omega) (by first | rfl | assumption))⟩⟩
                      · refine J_iload (pc := 102) dX8_isSoundNow_102 rfl ?_
                        refine J_if_eqN (pc := 104) (tgt := 140) dX8_isSoundNow_104 (by decide) (by omega) (fun ht190 => ?_) (fun hf191 => ?_)
                        · refine J_iconst (pc := 140) (v := nI 0) dX8_isSoundNow_140 (by decide) ?_
                          refine J_istore (pc := 141) dX8_isSoundNow_141 (by decide) rfl ?_
                          show J X mX8_isSoundNow d (kc - 13) (ks - 2054) 143 [some (.ref 19), some (.int (nI k1)), some (.int z2), some (.int v11), some (.int (nI 0)), some (.int (nI c5))] [] w177 _
                          refine J_iincN (pc := 143) (b := 1) dX8_isSoundNow_143 rfl (by decide) (by decide) rfl ?_
                          show J X mX8_isSoundNow d (kc - 13) (ks - 2054) 146 [some (.ref 19), some (.int (nI k1)), some (.int z2), some (.int v11), some (.int (nI 0)), some (.int (nI (c5 + 1)))] [] w177 _
                          refine J_goto (pc := 146) (tgt := 95) dX8_isSoundNow_146 (by decide) ?_
                          exact J_sub (L' := [some (.ref 19), some (.int (nI k1)), some (.int z2), some (.int v11), some (.int (nI 0)), some (.int (nI (c5 + 1)))]) ⟨rfl, ⟨rfl, ⟨rfl, ⟨rfl, ⟨rfl, ⟨rfl, trivial⟩⟩⟩⟩⟩⟩ (ihlp95_176 w177 0 (c5 + 1) ⟨h19_181, h20_181, h21_181, h22_181, hb_181, hbl_181, hb3_181⟩ hF179 (by first | assumption | omega) (by first | assumption | omega) (by omega))
                        · refine J_aload_n (pc := 107) dX8_isSoundNow_107 rfl rfl rfl ?_
                          refine J_bipush (pc := 108) (v := nI 63) dX8_isSoundNow_108 (by decide) ?_
                          refine J_iload (pc := 110) dX8_isSoundNow_110 rfl ?_
                          refine J_callV0 (pc := 112) (M := mX8_isSoundNow) (as := [.int (nI 63), .int (nI c5)]) dX8_isSoundNow_112 fw_X8_isInNow fl_X8_185 fm_X8_isInNow fe_X8_isInNow h19_181 (by decide) rfl rfl rfl (c_X8_isInNow_atk hs (d := d - 1) (Nat.le_trans (by decide) hdm) (w := w177) (n := n) (mv := mv) (rw := rw11) (nx := nx1) (b := b1) (bt := bt1) (kn := kn1) (en := en1) (dn := dn) (rf := rf) (kk := kk) (th := th) ⟨h19_181, h20_181, h21_181, h22_181, hb_181, hbl_181, hb3_181⟩ hn1 hn2 gm hgrw11 hgnx1 63 c5 (by first | assumption | omega) (by first | assumption | omega) (by first | assumption | omega) (by first | assumption | omega) (by first | assumption | omega) (kc := 0) (ks := 0)) hdp (st := []) (Nat.le_of_ble_eq_true rfl) rfl (kr_I fun v192 w192 hv192 hw192 => ?_) kx_I
                          obtain ⟨hR192, hFc192⟩ := hw192
                          obtain ⟨h19_192, h20_192, h21_192, h22_192, hbb_192, hbl_192, hb3_192⟩ := hR192
                          have hF192 := hF179.tr hFc192
                          obtain ⟨k192, rfl, hk192⟩ := hv192
                          refine J_if_eqN (pc := 115) (tgt := 140) dX8_isSoundNow_115 (by decide) (by omega) (fun ht193 => ?_) (fun hf194 => ?_)
                          · refine J_iconst (pc := 140) (v := nI 0) dX8_isSoundNow_140 (by decide) ?_
                            refine J_istore (pc := 141) dX8_isSoundNow_141 (by decide) rfl ?_
                            show J X mX8_isSoundNow d (kc - 13) (ks - 2054) 143 [some (.ref 19), some (.int (nI k1)), some (.int z2), some (.int v11), some (.int (nI 0)), some (.int (nI c5))] [] w192 _
                            refine J_iincN (pc := 143) (b := 1) dX8_isSoundNow_143 rfl (by decide) (by decide) rfl ?_
                            show J X mX8_isSoundNow d (kc - 13) (ks - 2054) 146 [some (.ref 19), some (.int (nI k1)), some (.int z2), some (.int v11), some (.int (nI 0)), some (.int (nI (c5 + 1)))] [] w192 _
                            refine J_goto (pc := 146) (tgt := 95) dX8_isSoundNow_146 (by decide) ?_
                            exact J_sub (L' := [some (.ref 19), some (.int (nI k1)), some (.int z2), some (.int v11), some (.int (nI 0)), some (.int (nI (c5 + 1)))]) ⟨rfl, ⟨rfl, ⟨rfl, ⟨rfl, ⟨rfl, ⟨rfl, trivial⟩⟩⟩⟩⟩⟩ (ihlp95_176 w192 0 (c5 + 1) ⟨h19_192, h20_192, h21_192, h22_192, hbb_192, hbl_192, hb3_192⟩ hF192 (by first | assumption | omega) (by first | assumption | omega) (by omega))
                          · refine J_iload_n (pc := 118) dX8_isSoundNow_118 rfl rfl ?_
                            refine J_aload_n (pc := 119) dX8_isSoundNow_119 rfl rfl rfl ?_
                            refine J_aload_n (pc := 120) dX8_isSoundNow_120 rfl rfl rfl ?_
                            refine J_get (pc := 121) (k := 1) dX8_isSoundNow_121 kC9 (by decide) ff_X8_13 h19_192 rfl ?_
                            refine J_iload (pc := 124) dX8_isSoundNow_124 rfl ?_
                            refine J_bipush (pc := 126) (v := nI 7) dX8_isSoundNow_126 (by decide) ?_
                            refine J_imulN (pc := 128) dX8_isSoundNow_128 ?_
                            refine J_callV0 (pc := 129) (M := mX8_isSoundNow) (as := [.ref 20, .int (nI (c5 * 7))]) dX8_isSoundNow_129 fw_X8_orderOf fl_X8_172 fm_X8_orderOf fe_X8_orderOf h19_192 (by decide) rfl rfl rfl (c_X8_orderOf_at20 hs (d := d - 1) (Nat.le_trans (by decide) hdm) (w := w192) (n := n) (mv := mv) (rw := rw11) (nx := nx1) (b := b1) (bt := bt1) (kn := kn1) (en := en1) (dn := dn) (rf := rf) (kk := kk) (th := th) ⟨h19_192, h20_192, h21_192, h22_192, hbb_192, hbl_192, hb3_192⟩ hn1 hn2 gm hgrw11 hgnx1 (c5 * 7) (by first | assumption | omega) (by exact hy0 c5 (by omega)) (kc := 0) (ks := 0)) hdp (st := [.int (nI k1)]) (Nat.le_of_ble_eq_true rfl) rfl (kr_P fun v195 hv195 => ?_) kx_I
                            obtain ⟨k195, rfl, hk195⟩ := hv195
                            have hm196 := Nat.mod_lt k1 (show 0 < k195 by omega)
                            have hm197 := Nat.div_le_self k1 k195
                            refine J_iremN (pc := 132) dX8_isSoundNow_132 (by omega) (by omega) (by omega) ?_
                            refine J_if_neN (pc := 133) (tgt := 140) dX8_isSoundNow_133 (by decide) (by omega) (fun ht198 => ?_) (fun hf199 => ?_)
                            · refine J_iconst (pc := 140) (v := nI 0) dX8_isSoundNow_140 (by decide) ?_
                              refine J_istore (pc := 141) dX8_isSoundNow_141 (by decide) rfl ?_
                              show J X mX8_isSoundNow d (kc - 13) (ks - 2054) 143 [some (.ref 19), some (.int (nI k1)), some (.int z2), some (.int v11), some (.int (nI 0)), some (.int (nI c5))] [] w192 _
                              refine J_iincN (pc := 143) (b := 1) dX8_isSoundNow_143 rfl (by decide) (by decide) rfl ?_
                              show J X mX8_isSoundNow d (kc - 13) (ks - 2054) 146 [some (.ref 19), some (.int (nI k1)), some (.int z2), some (.int v11), some (.int (nI 0)), some (.int (nI (c5 + 1)))] [] w192 _
                              refine J_goto (pc := 146) (tgt := 95) dX8_isSoundNow_146 (by decide) ?_
                              exact J_sub (L' := [some (.ref 19), some (.int (nI k1)), some (.int z2), some (.int v11), some (.int (nI 0)), some (.int (nI (c5 + 1)))]) ⟨rfl, ⟨rfl, ⟨rfl, ⟨rfl, ⟨rfl, ⟨rfl, trivial⟩⟩⟩⟩⟩⟩ (ihlp95_176 w192 0 (c5 + 1) ⟨h19_192, h20_192, h21_192, h22_192, hbb_192, hbl_192, hb3_192⟩ hF192 (by first | assumption | omega) (by first | assumption | omega) (by omega))
                            · refine J_iconst (pc := 136) (v := nI 1) dX8_isSoundNow_136 (by decide) ?_
                              refine J_goto (pc := 137) (tgt := 141) dX8_isSoundNow_137 (by decide) ?_
                              refine J_istore (pc := 141) dX8_isSoundNow_141 (by decide) rfl ?_
                              show J X mX8_isSoundNow d (kc - 13) (ks - 2054) 143 [some (.ref 19), some (.int (nI k1)), some (.int z2), some (.int v11), some (.int (nI 1)), some (.int (nI c5))] [] w192 _
                              refine J_iincN (pc := 143) (b := 1) dX8_isSoundNow_143 rfl (by decide) (by decide) rfl ?_
                              show J X mX8_isSoundNow d (kc - 13) (ks - 2054) 146 [some (.ref 19), some (.int (nI k1)), some (.int z2), some (.int v11), some (.int (nI 1)), some (.int (nI (c5 + 1)))] [] w192 _
                              refine J_goto (pc := 146) (tgt := 95) dX8_isSoundNow_146 (by decide) ?_
                              exact J_sub (L' := [some (.ref 19), some (.int (nI k1)), some (.int z2), some (.int v11), some (.int (nI 1)), some (.int (nI (c5 + 1)))]) ⟨rfl, ⟨rfl, ⟨rfl, ⟨rfl, ⟨rfl, ⟨rfl, trivial⟩⟩⟩⟩⟩⟩ (ihlp95_176 w192 1 (c5 + 1) ⟨h19_192, h20_192, h21_192, h22_192, hbb_192, hbl_192, hb3_192⟩ hF192 (by first | assumption | omega) (by first | assumption | omega) (by omega))
                  exact J_sub (L' := [some (.ref 19), some (.int (nI k1)), some (.int z2), some (.int v11), some (.int (nI 1)), some (.int (nI 0))]) ⟨rfl, ⟨rfl, ⟨rfl, ⟨rfl, ⟨rfl, ⟨rfl, trivial⟩⟩⟩⟩⟩⟩ (lp95_176 _ w11 1 0 ⟨h19_11, h20_11, h21_11, h22_11, hbb_11, hbl_11, hb3_11⟩ hF11 (by first | assumption | omega) (by first | assumption | omega) (Nat.lt_succ_self _))
      · refine J_iload_n (pc := 19) dX8_isSoundNow_19 rfl rfl ?_
        refine J_aload_n (pc := 20) dX8_isSoundNow_20 rfl rfl rfl ?_
        refine J_bipush (pc := 21) (v := nI 63) dX8_isSoundNow_21 (by decide) ?_
        refine J_iconst (pc := 23) (v := nI 0) dX8_isSoundNow_23 (by decide) ?_
        refine J_iload_n (pc := 24) dX8_isSoundNow_24 rfl rfl ?_
        refine J_callV0 (pc := 25) (M := mX8_isSoundNow) (as := [.int (nI 63), .int (nI 0), .int (nI c3)]) dX8_isSoundNow_25 fw_X8_reachNow fl_X8_181 fm_X8_reachNow fe_X8_reachNow h19_8 (by decide) rfl rfl rfl (c_X8_reachNow_atk hs (d := d - 1) (Nat.le_trans (by decide) hdm) (w := w3) (n := n) (mv := mv) (rw := rw_11) (nx := nx1) (b := b1) (bt := bt1) (kn := kn1) (en := en1) (dn := dn) (rf := rf) (kk := kk) (th := th) ⟨h19_8, h20_8, h21_8, h22_8, hb_8, hbl_8, hb3_8⟩ hn1 hn2 gm gr6 hgnx1 63 0 c3 (by first | assumption | omega) (by first | assumption | omega) (by first | assumption | omega) (by first | assumption | omega) (by first | assumption | omega) (by first | assumption | omega) (kc := 0) (ks := 0)) hdp (st := [.int z2]) (Nat.le_of_ble_eq_true rfl) rfl (kr_I fun v200 w200 hv200 hw200 => ?_) kx_I
        obtain ⟨rw200, hR200, hFc200, hgrw200⟩ := hw200
        obtain ⟨h19_200, h20_200, h21_200, h22_200, hbb_200, hbl_200, hb3_200⟩ := hR200
        have hF200 := hF5.tr hFc200
        refine J_callS0 (pc := 28) (M := mX8_isSoundNow) (as := [.int v200]) dX8_isSoundNow_28 fw_J6_bitCount_0f7a4 fl_X8_96 fs_J6_bitCount_0f7a4 rfl (c_J6_bitCount_0f7a4 hs (d := d - 1) (Nat.le_trans (by decide) hdm) (w := w200) v200 (kc := 0) (ks := 0)) hdp (st := [.int z2]) (Nat.le_of_ble_eq_true rfl) rfl (kr_P fun v201 hv201 => ?_) kx_I
        obtain ⟨k201, rfl, hk201⟩ := hv201
        refine J_imul (pc := 31) dX8_isSoundNow_31 (J_absI fun x202 => ?_)
        refine J_istore_n (pc := 32) dX8_isSoundNow_32 rfl (by decide) rfl ?_
        show J X mX8_isSoundNow d (kc - 13) (ks - 2054) 33 [some (.ref 19), some (.int (nI k1)), some (.int x202), some (.int (nI c3)), none, none] [] w200 _
        refine J_iincN (pc := 33) (b := 1) dX8_isSoundNow_33 rfl (by decide) (by decide) rfl ?_
        show J X mX8_isSoundNow d (kc - 13) (ks - 2054) 36 [some (.ref 19), some (.int (nI k1)), some (.int x202), some (.int (nI (c3 + 1))), none, none] [] w200 _
        refine J_goto (pc := 36) (tgt := 11) dX8_isSoundNow_36 (by decide) ?_
        exact J_sub (L' := [some (.ref 19), some (.int (nI k1)), some (.int x202), some (.int (nI (c3 + 1))), none, none]) ⟨rfl, ⟨rfl, ⟨rfl, ⟨rfl, trivial⟩⟩⟩⟩ (ihlp11_2 w200 rw200 x202 (c3 + 1) ⟨h19_200, h20_200, h21_200, h22_200, hbb_200, hbl_200, hb3_200⟩ hF200 hgrw200 (by first | assumption | omega) (by omega))
  exact J_sub (L' := [some (.ref 19), some (.int (nI k1)), some (.int (nI 1)), some (.int (nI 0)), none, none]) ⟨rfl, ⟨rfl, ⟨rfl, ⟨rfl, trivial⟩⟩⟩⟩ (lp11_2 _ w1 rw1 (nI 1) 0 ⟨h19_1, h20_1, h21_1, h22_1, hbb_1, hbl_1, hb3_1⟩ hF1 hgrw1 (by first | assumption | omega) (Nat.lt_succ_self _))
