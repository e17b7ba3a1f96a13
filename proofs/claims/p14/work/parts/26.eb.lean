/-! contracts of the reference: rspec4 -/
set_option maxRecDepth 100000 in
set_option maxHeartbeats 4000000 in
theorem c_X8_byThoseThatStay {X : jX} (hs : X.1.stackTraces = false) {d : Nat} (hd : 4 ≤ d) {n : Nat} {mv rw nx : Nat → Nat} {b : Nat} {bt : List Int32} {kn en dn rf kk th : Int32} {w : List jC} (hR : RM n mv rw nx b bt kn en dn rf kk th w) (hn1 : 2 ≤ n) (hn2 : n ≤ 7) (gm : ∀ i, mv i < 7) (gr : ∀ i, rw i < 7) (gx : ∀ i, nx i < 7) (s : Nat) (c : Int32) (hy0 : s < 64) (hy1 : PM n mv) (hy2 : KX n mv kn bt) {kc ks : Nat} (hkc : 13 ≤ kc) (hks : 2054 ≤ ks) : jMet X mX8_byThoseThatStay d kc ks [.ref 19, .int (nI s), .int c] w (pI (fun _ => True) (fun w' => ∃ (rw' : Nat → Nat), ∃ (nx' : Nat → Nat), ∃ (b' : Nat), ∃ (bt' : List Int32), ∃ (kn' : Int32), ∃ (en' : Int32), RM n mv rw' nx' b' bt' kn' en' dn rf kk th w' ∧ FR b b' w w' ∧ (∀ i, rw' i < 7) ∧ (∀ i, nx' i < 7) ∧ kn' = nI s ∧ BX n mv s bt')) := by
  refine jMet_of hs (by decide +kernel) (Nat.le_of_ble_eq_true rfl) (L := [some (.ref 19), some (.int (nI s)), some (.int c), none, none, none, none]) rfl ?_
  have hdm : 3 ≤ d - 1 := by omega
  have hdp : d - 1 + 1 ≤ d := by omega
  have hfc := fc_7 hn2
  have hfp := fc_pos n
  obtain ⟨h19, h20, h21, h22, hbb, hbl, hb3⟩ := hR
  have hF : FR b b w w := FR.rf
  refine J_aload_n (pc := 0) dX8_byThoseThatStay_0 rfl rfl rfl ?_
  refine J_iload_n (pc := 1) dX8_byThoseThatStay_1 rfl rfl ?_
  refine J_callV (pc := 2) (M := mX8_byThoseThatStay) (as := [.int (nI s)]) dX8_byThoseThatStay_2 fw_X8_group fl_X8_99 fm_X8_group fe_X8_group h19 (by decide) rfl rfl rfl (c_X8_group_ate hs (d := d - 1) (Nat.le_trans (by decide) hdm) (w := w) (n := n) (mv := mv) (rw := rw) (nx := nx) (b := b) (bt := bt) (kn := kn) (en := en) (dn := dn) (rf := rf) (kk := kk) (th := th) ⟨h19, h20, h21, h22, hbb, hbl, hb3⟩ hn1 hn2 gm gr gx s (by first | assumption | omega) (by first | assumption | omega) (by first | assumption | omega) (kc := 13) (ks := 2054) (Nat.le_refl _) (Nat.le_refl _)) hdp (by omega) (by omega) (st := []) (Nat.le_of_ble_eq_true rfl) rfl (kr_V fun w1 hw1 => ?_) kx_V
  obtain ⟨rw1, nx1, b1, bt1, kn1, en1, hR1, hFc1, hgrw1, hgnx1, hp1_0, hp1_1⟩ := hw1
  obtain ⟨h19_1, h20_1, h21_1, h22_1, hbb_1, hbl_1, hb3_1⟩ := hR1
  have qd1 := hFc1.2.1
  have hF1 := hF.tr hFc1
  have hBT := hp1_1
  refine J_iconst (pc := 5) (v := nI 0) dX8_byThoseThatStay_5 (by decide) ?_
  refine J_istore_n (pc := 6) dX8_byThoseThatStay_6 rfl (by decide) rfl ?_
  show J X mX8_byThoseThatStay d (kc - 13) (ks - 2054) 7 [some (.ref 19), some (.int (nI s)), some (.int c), some (.int (nI 0)), none, none, none] [] w1 _
  refine J_aload_n (pc := 7) dX8_byThoseThatStay_7 rfl rfl rfl ?_
  refine J_iconst (pc := 8) (v := nI 0) dX8_byThoseThatStay_8 (by decide) ?_
  refine J_callV0 (pc := 9) (M := mX8_byThoseThatStay) (as := [.int (nI 0)]) dX8_byThoseThatStay_9 fw_X8_from fl_X8_137 fm_X8_from fe_X8_from h19_1 (by decide) rfl rfl rfl (c_X8_from hs (d := d - 1) (Nat.le_trans (by decide) hdm) (w := w1) (n := n) (mv := mv) (rw := rw1) (nx := nx1) (b := b1) (bt := bt1) (kn := kn1) (en := en1) (dn := dn) (rf := rf) (kk := kk) (th := th) ⟨h19_1, h20_1, h21_1, h22_1, hbb_1, hbl_1, hb3_1⟩ hn1 hn2 gm hgrw1 hgnx1 0 (by first | assumption | omega) (kc := 0) (ks := 0)) hdp (st := []) (Nat.le_of_ble_eq_true rfl) rfl (kr_P fun v2 hv2 => ?_) kx_I
  rcases hv2 with ⟨rfl, hk2_0⟩ | ⟨q2, rfl, hk2_0, hk2_1, hk2_2, hk2_3⟩
  · refine J_istore (pc := 12) dX8_byThoseThatStay_12 (by decide) rfl ?_
    show J X mX8_byThoseThatStay d (kc - 13) (ks - 2054) 14 [some (.ref 19), some (.int (nI s)), some (.int c), some (.int (nI 0)), some (.int (-1)), none, none] [] w1 _
    have lp14_3 : ∀ (fuel : Nat) (w4 : List jC) (rw_14 : Nat → Nat) (z3 : Int32) (c4 : Nat), (RM n mv rw_14 nx1 b1 bt1 kn1 en1 dn rf kk th w4) → (FR b b1 w w4) → (∀ i, rw_14 i < 7) → (c4 ≤ fc n) → (mu (fc n) c4 < fuel) → J X mX8_byThoseThatStay d (kc - 13) (ks - 2054) 14 [some (.ref 19), some (.int (nI s)), some (.int c), some (.int z3), some (.int (nI c4 + Int32.ofInt (-1))), none, none] [] w4 (pI (fun _ => True) (fun w' => ∃ (rw' : Nat → Nat), ∃ (nx' : Nat → Nat), ∃ (b' : Nat), ∃ (bt' : List Int32), ∃ (kn' : Int32), ∃ (en' : Int32), RM n mv rw' nx' b' bt' kn' en' dn rf kk th w' ∧ FR b b' w w' ∧ (∀ i, rw' i < 7) ∧ (∀ i, nx' i < 7) ∧ kn' = nI s ∧ BX n mv s bt')) := by
      intro fuellp14_3
      induction fuellp14_3 with
      | zero => intros; omega
      | succ fuellp14_3 ihlp14_3 =>
        intro w4 rw_14 z3 c4 hR5 hF6 gr7 hv14_0 hf8
        obtain ⟨h19_9, h20_9, h21_9, h22_9, hb_9, hbl_9, hb3_9⟩ := hR5
        refine J_iload (pc := 14) dX8_byThoseThatStay_14 rfl ?_
        refine J_if_ltM (pc := 16) (tgt := 78) dX8_byThoseThatStay_16 (by decide) (by omega) (fun ht10 => ?_) (fun hf11 => ?_)
        · refine J_iload_n (pc := 78) dX8_byThoseThatStay_78 rfl rfl ?_
          refine J_aload_n (pc := 79) dX8_byThoseThatStay_79 rfl rfl rfl ?_
          refine J_callV0 (pc := 80) (M := mX8_byThoseThatStay) (as := []) dX8_byThoseThatStay_80 fw_X8_sizeNow fl_X8_102 fm_X8_sizeNow fe_X8_sizeNow h19_9 (by decide) rfl rfl rfl (c_X8_sizeNow hs (d := d - 1) (Nat.le_trans (by decide) hdm) (w := w4) (n := n) (mv := mv) (rw := rw_14) (nx := nx1) (b := b1) (bt := bt1) (kn := kn1) (en := en1) (dn := dn) (rf := rf) (kk := kk) (th := th) ⟨h19_9, h20_9, h21_9, h22_9, hb_9, hbl_9, hb3_9⟩ hn1 hn2 gm gr7 hgnx1  (kc := 0) (ks := 0)) hdp (st := [.int z3]) (Nat.le_of_ble_eq_true rfl) rfl (kr_P fun v12 hv12 => ?_) kx_I
          subst hv12
          have hsz := cnt_pos (P := bitL bt1) 5056 0 (by decide) (BX_BT hn1 hn2 hBT).2
          have hsz2 := cnt_le (bitL bt1) 5056
          refine J_idiv (pc := 83) dX8_byThoseThatStay_83 (nI_ne0 (by omega) (by omega)) (J_absI fun x13 => ?_)
          exact J_iret (pc := 84) dX8_byThoseThatStay_84 rfl ⟨trivial, ⟨rw_14, nx1, b1, bt1, kn1, en1, ⟨h19_9, h20_9, h21_9, h22_9, hb_9, hbl_9, hb3_9⟩, hF6, gr7, hgnx1, (by first | assumption | omega), (by first | assumption | omega)⟩⟩
        · rw [nI_m1 hf11]
          refine J_aload_n (pc := 19) dX8_byThoseThatStay_19 rfl rfl rfl ?_
          refine J_iload (pc := 20) dX8_byThoseThatStay_20 rfl ?_
          refine J_aload_n (pc := 22) dX8_byThoseThatStay_22 rfl rfl rfl ?_
          refine J_get (pc := 23) (k := 2) dX8_byThoseThatStay_23 kC9 (by decide) ff_X8_17 h19_9 rfl ?_
          refine J_callV0 (pc := 26) (M := mX8_byThoseThatStay) (as := [.int (nI (c4 - 1)), .ref 21]) dX8_byThoseThatStay_26 fw_X8_rowOf fl_X8_78 fm_X8_rowOf fe_X8_rowOf h19_9 (by decide) rfl rfl rfl (c_X8_rowOf hs (d := d - 1) (Nat.le_trans (by decide) hdm) (w := w4) (n := n) (mv := mv) (rw := rw_14) (nx := nx1) (b := b1) (bt := bt1) (kn := kn1) (en := en1) (dn := dn) (rf := rf) (kk := kk) (th := th) ⟨h19_9, h20_9, h21_9, h22_9, hb_9, hbl_9, hb3_9⟩ hn1 hn2 gm gr7 hgnx1 (c4 - 1) (by first | assumption | omega) (kc := 0) (ks := 0)) hdp (st := []) (Nat.le_of_ble_eq_true rfl) rfl (kr_V fun w14 hw14 => ?_) kx_V
          obtain ⟨rw14, hR14, hFc14, hgrw14, hp14_0⟩ := hw14
          obtain ⟨h19_14, h20_14, h21_14, h22_14, hbb_14, hbl_14, hb3_14⟩ := hR14
          have hF14 := hF6.tr hFc14
          have hPr := Pn_row (by omega) hp14_0
          refine J_iconst (pc := 29) (v := nI 1) dX8_byThoseThatStay_29 (by decide) ?_
          refine J_istore (pc := 30) dX8_byThoseThatStay_30 (by decide) rfl ?_
          show J X mX8_byThoseThatStay d (kc - 13) (ks - 2054) 32 [some (.ref 19), some (.int (nI s)), some (.int c), some (.int z3), some (.int (nI (c4 - 1))), some (.int (nI 1)), none] [] w14 _
          refine J_aload_n (pc := 32) dX8_byThoseThatStay_32 rfl rfl rfl ?_
          refine J_aload_n (pc := 33) dX8_byThoseThatStay_33 rfl rfl rfl ?_
          refine J_get (pc := 34) (k := 2) dX8_byThoseThatStay_34 kC9 (by decide) ff_X8_17 h19_14 rfl ?_
          refine J_iconst (pc := 37) (v := nI 0) dX8_byThoseThatStay_37 (by decide) ?_
          refine J_callV0 (pc := 38) (M := mX8_byThoseThatStay) (as := [.ref 21, .int (nI 0)]) dX8_byThoseThatStay_38 fw_X8_ringsOf fl_X8_203 fm_X8_ringsOf fe_X8_ringsOf h19_14 (by decide) rfl rfl rfl (c_X8_ringsOf_at21 hs (d := d - 1) (Nat.le_trans (by decide) hdm) (w := w14) (n := n) (mv := mv) (rw := rw14) (nx := nx1) (b := b1) (bt := bt1) (kn := kn1) (en := en1) (dn := dn) (rf := rf) (kk := kk) (th := th) ⟨h19_14, h20_14, h21_14, h22_14, hbb_14, hbl_14, hb3_14⟩ hn1 hn2 gm hgrw14 hgnx1 0 (by first | assumption | omega) (by exact Pn_z hPr) (kc := 0) (ks := 0)) hdp (st := []) (Nat.le_of_ble_eq_true rfl) rfl (kr_P fun v15 hv15 => ?_) kx_I
          obtain ⟨k15, rfl, hk15⟩ := hv15
          refine J_istore (pc := 41) dX8_byThoseThatStay_41 (by decide) rfl ?_
          show J X mX8_byThoseThatStay d (kc - 13) (ks - 2054) 43 [some (.ref 19), some (.int (nI s)), some (.int c), some (.int z3), some (.int (nI (c4 - 1))), some (.int (nI 1)), some (.int (nI k15))] [] w14 _
          have lp43_16 : ∀ (fuel : Nat) (z5 : Int32) (c6 : Nat), (c6 ≤ 7) → (c6 < fuel) → J X mX8_byThoseThatStay d (kc - 13) (ks - 2054) 43 [some (.ref 19), some (.int (nI s)), some (.int c), some (.int z3), some (.int (nI (c4 - 1))), some (.int z5), some (.int (nI c6))] [] w14 (pI (fun _ => True) (fun w' => ∃ (rw' : Nat → Nat), ∃ (nx' : Nat → Nat), ∃ (b' : Nat), ∃ (bt' : List Int32), ∃ (kn' : Int32), ∃ (en' : Int32), RM n mv rw' nx' b' bt' kn' en' dn rf kk th w' ∧ FR b b' w w' ∧ (∀ i, rw' i < 7) ∧ (∀ i, nx' i < 7) ∧ kn' = nI s ∧ BX n mv s bt')) := by
            intro fuellp43_16
            induction fuellp43_16 with
            | zero => intros; omega
            | succ fuellp43_16 ihlp43_16 =>
              intro z5 c6 hv43_0 hf17
              refine J_iload (pc := 43) dX8_byThoseThatStay_43 rfl ?_
              refine J_if_leN (pc := 45) (tgt := 60) dX8_byThoseThatStay_45 (by decide) (by omega) (fun ht18 => ?_) (fun hf19 => ?_)
              · refine J_iload_n (pc := 60) dX8_byThoseThatStay_60 rfl rfl ?_
                refine J_iload (pc := 61) dX8_byThoseThatStay_61 rfl ?_
                refine J_iadd (pc := 63) dX8_byThoseThatStay_63 (J_absI fun x20 => ?_)
                refine J_istore_n (pc := 64) dX8_byThoseThatStay_64 rfl (by decide) rfl ?_
                show J X mX8_byThoseThatStay d (kc - 13) (ks - 2054) 65 [some (.ref 19), some (.int (nI s)), some (.int c), some (.int x20), some (.int (nI (c4 - 1))), some (.int z5), some (.int (nI c6))] [] w14 _
                refine J_aload_n (pc := 65) dX8_byThoseThatStay_65 rfl rfl rfl ?_
                refine J_iload (pc := 66) dX8_byThoseThatStay_66 rfl ?_
                refine J_iconst (pc := 68) (v := nI 1) dX8_byThoseThatStay_68 (by decide) ?_
                refine J_iaddN (pc := 69) dX8_byThoseThatStay_69 ?_
                refine J_callV0 (pc := 70) (M := mX8_byThoseThatStay) (as := [.int (nI ((c4 - 1) + 1))]) dX8_byThoseThatStay_70 fw_X8_from fl_X8_137 fm_X8_from fe_X8_from h19_14 (by decide) rfl rfl rfl (c_X8_from hs (d := d - 1) (Nat.le_trans (by decide) hdm) (w := w14) (n := n) (mv := mv) (rw := rw14) (nx := nx1) (b := b1) (bt := bt1) (kn := kn1) (en := en1) (dn := dn) (rf := rf) (kk := kk) (th := th) ⟨h19_14, h20_14, h21_14, h22_14, hbb_14, hbl_14, hb3_14⟩ hn1 hn2 gm hgrw14 hgnx1 ((c4 - 1) + 1) (by first | assumption | omega) (kc := 0) (ks := 0)) hdp (st := []) (Nat.le_of_ble_eq_true rfl) rfl (kr_P fun v21 hv21 => ?_) kx_I
                rcases hv21 with ⟨rfl, hk21_0⟩ | ⟨q21, rfl, hk21_0, hk21_1, hk21_2, hk21_3⟩
                · refine J_istore (pc := 73) dX8_byThoseThatStay_73 (by decide) rfl ?_
                  show J X mX8_byThoseThatStay d (kc - 13) (ks - 2054) 75 [some (.ref 19), some (.int (nI s)), some (.int c), some (.int x20), some (.int (-1)), some (.int z5), some (.int (nI c6))] [] w14 _
                  refine J_goto (pc := 75) (tgt := 14) dX8_byThoseThatStay_75 (by decide) ?_
                  exact J_sub (L' := [some (.ref 19), some (.int (nI s)), some (.int c), some (.int x20), some (.int (nI 0 + Int32.ofInt (-1))), none, none]) ⟨rfl, ⟨rfl, ⟨rfl, ⟨rfl, ⟨(congrArg (fun z => some (Value.int z)) (by decide : (-1 : Int32) = nI 0 + Int32.ofInt (-1))), trivial⟩⟩⟩⟩⟩ (ihlp14_3 w14 rw14 x20 0 ⟨h19_14, h20_14, h21_14, h22_14, hbb_14, hbl_14, hb3_14⟩ hF14 hgrw14 (by first | assumption | omega) (by exact mu_dec (by assumption) (by omega) (by omega) (by omega)))
                · refine J_istore (pc := 73) dX8_byThoseThatStay_73 (by decide) rfl ?_
                  show J X mX8_byThoseThatStay d (kc - 13) (ks - 2054) 75 [some (.ref 19), some (.int (nI s)), some (.int c), some (.int x20), some (.int (nI q21)), some (.int z5), some (.int (nI c6))] [] w14 _
                  refine J_goto (pc := 75) (tgt := 14) dX8_byThoseThatStay_75 (by decide) ?_
                  exact J_sub (L' := [some (.ref 19), some (.int (nI s)), some (.int c), some (.int x20), some (.int (nI (q21 + 1) + Int32.ofInt (-1))), none, none]) ⟨rfl, ⟨rfl, ⟨rfl, ⟨rfl, ⟨(congrArg (fun z => some (Value.int z)) (nI_n1 q21)), trivial⟩⟩⟩⟩⟩ (ihlp14_3 w14 rw14 x20 (q21 + 1) ⟨h19_14, h20_14, h21_14, h22_14, hbb_14, hbl_14, hb3_14⟩ hF14 hgrw14 (by first | assumption | omega) (by exact mu_dec (by assumption) (by omega) (by omega) (by omega)))
              · refine J_iload (pc := 48) dX8_byThoseThatStay_48 rfl ?_
                refine J_iload_n (pc := 50) dX8_byThoseThatStay_50 rfl rfl ?_
                refine J_imul (pc := 51) dX8_byThoseThatStay_51 (J_absI fun x22 => ?_)
                refine J_istore (pc := 52) dX8_byThoseThatStay_52 (by decide) rfl ?_
                show J X mX8_byThoseThatStay d (kc - 13) (ks - 2054) 54 [some (.ref 19), some (.int (nI s)), some (.int c), some (.int z3), some (.int (nI (c4 - 1))), some (.int x22), some (.int (nI c6))] [] w14 _
                refine J_iincM (pc := 54) dX8_byThoseThatStay_54 rfl (by omega) (by decide) rfl ?_
                show J X mX8_byThoseThatStay d (kc - 13) (ks - 2054) 57 [some (.ref 19), some (.int (nI s)), some (.int c), some (.int z3), some (.int (nI (c4 - 1))), some (.int x22), some (.int (nI (c6 - 1)))] [] w14 _
                refine J_goto (pc := 57) (tgt := 43) dX8_byThoseThatStay_57 (by decide) ?_
                exact J_sub (L' := [some (.ref 19), some (.int (nI s)), some (.int c), some (.int z3), some (.int (nI (c4 - 1))), some (.int x22), some (.int (nI (c6 - 1)))]) ⟨rfl, ⟨rfl, ⟨rfl, ⟨rfl, ⟨rfl, ⟨rfl, ⟨rfl, trivial⟩⟩⟩⟩⟩⟩⟩ (ihlp43_16 x22 (c6 - 1) (by first | assumption | omega) (by omega))
          exact J_sub (L' := [some (.ref 19), some (.int (nI s)), some (.int c), some (.int z3), some (.int (nI (c4 - 1))), some (.int (nI 1)), some (.int (nI k15))]) ⟨rfl, ⟨rfl, ⟨rfl, ⟨rfl, ⟨rfl, ⟨rfl, ⟨rfl, trivial⟩⟩⟩⟩⟩⟩⟩ (lp43_16 _ (nI 1) k15 (by first | assumption | omega) (Nat.lt_succ_self _))
    exact J_sub (L' := [some (.ref 19), some (.int (nI s)), some (.int c), some (.int (nI 0)), some (.int (nI 0 + Int32.ofInt (-1))), none, none]) ⟨rfl, ⟨rfl, ⟨rfl, ⟨rfl, ⟨(congrArg (fun z => some (Value.int z)) (by decide : (-1 : Int32) = nI 0 + Int32.ofInt (-1))), trivial⟩⟩⟩⟩⟩ (lp14_3 _ w1 rw1 (nI 0) 0 ⟨h19_1, h20_1, h21_1, h22_1, hbb_1, hbl_1, hb3_1⟩ hF1 hgrw1 (by first | assumption | omega) (Nat.lt_succ_self _))
  · refine J_istore (pc := 12) dX8_byThoseThatStay_12 (by decide) rfl ?_
    show J X mX8_byThoseThatStay d (kc - 13) (ks - 2054) 14 [some (.ref 19), some (.int (nI s)), some (.int c), some (.int (nI 0)), some (.int (nI q2)), none, none] [] w1 _
    have lp14_23 : ∀ (fuel : Nat) (w24 : List jC) (rw_14 : Nat → Nat) (z3 : Int32) (c4 : Nat), (RM n mv rw_14 nx1 b1 bt1 kn1 en1 dn rf kk th w24) → (FR b b1 w w24) → (∀ i, rw_14 i < 7) → (c4 ≤ fc n) → (mu (fc n) c4 < fuel) → J X mX8_byThoseThatStay d (kc - 13) (ks - 2054) 14 [some (.ref 19), some (.int (nI s)), some (.int c), some (.int z3), some (.int (nI c4 + Int32.ofInt (-1))), none, none] [] w24 (pI (fun _ => True) (fun w' => ∃ (rw' : Nat → Nat), ∃ (nx' : Nat → Nat), ∃ (b' : Nat), ∃ (bt' : List Int32), ∃ (kn' : Int32), ∃ (en' : Int32), RM n mv rw' nx' b' bt' kn' en' dn rf kk th w' ∧ FR b b' w w' ∧ (∀ i, rw' i < 7) ∧ (∀ i, nx' i < 7) ∧ kn' = nI s ∧ BX n mv s bt')) := by
      intro fuellp14_23
      induction fuellp14_23 with
      | zero => intros; omega
      | succ fuellp14_23 ihlp14_23 =>
        intro w24 rw_14 z3 c4 hR25 hF26 gr27 hv14_0 hf28
        obtain ⟨h19_29, h20_29, h21_29, h22_29, hb_29, hbl_29, hb3_29⟩ := hR25
        refine J_iload (pc := 14) dX8_byThoseThatStay_14 rfl ?_
        refine J_if_ltM (pc := 16) (tgt := 78) dX8_byThoseThatStay_16 (by decide) (by omega) (fun ht30 => ?_) (fun hf31 => ?_)
        · refine J_iload_n (pc := 78) dX8_byThoseThatStay_78 rfl rfl ?_
          refine J_aload_n (pc := 79) dX8_byThoseThatStay_79 rfl rfl rfl ?_
          refine J_callV0 (pc := 80) (M := mX8_byThoseThatStay) (as := []) dX8_byThoseThatStay_80 fw_X8_sizeNow fl_X8_102 fm_X8_sizeNow fe_X8_sizeNow h19_29 (by decide) rfl rfl rfl (c_X8_sizeNow hs (d := d - 1) (Nat.le_trans (by decide) hdm) (w := w24) (n := n) (mv := mv) (rw := rw_14) (nx := nx1) (b := b1) (bt := bt1) (kn := kn1) (en := en1) (dn := dn) (rf := rf) (kk := kk) (th := th) ⟨h19_29, h20_29, h21_29, h22_29, hb_29, hbl_29, hb3_29⟩ hn1 hn2 gm gr27 hgnx1  (kc := 0) (ks := 0)) hdp (st := [.int z3]) (Nat.le_of_ble_eq_true rfl) rfl (kr_P fun v32 hv32 => ?_) kx_I
          subst hv32
          have hsz := cnt_pos (P := bitL bt1) 5056 0 (by decide) (BX_BT hn1 hn2 hBT).2
          have hsz2 := cnt_le (bitL bt1) 5056
          refine J_idiv (pc := 83) dX8_byThoseThatStay_83 (nI_ne0 (by omega) (by omega)) (J_absI fun x33 => ?_)
          exact J_iret (pc := 84) dX8_byThoseThatStay_84 rfl ⟨trivial, ⟨rw_14, nx1, b1, bt1, kn1, en1, ⟨h19_29, h20_29, h21_29, h22_29, hb_29, hbl_29, hb3_29⟩, hF26, gr27, hgnx1, (by first | assumption | omega), (by first | assumption | omega)⟩⟩
        · rw [nI_m1 hf31]
          refine J_aload_n (pc := 19) dX8_byThoseThatStay_19 rfl rfl rfl ?_
          refine J_iload (pc := 20) dX8_byThoseThatStay_20 rfl ?_
          refine J_aload_n (pc := 22) dX8_byThoseThatStay_22 rfl rfl rfl ?_
          refine J_get (pc := 23) (k := 2) dX8_byThoseThatStay_23 kC9 (by decide) ff_X8_17 h19_29 rfl ?_
          refine J_callV0 (pc := 26) (M := mX8_byThoseThatStay) (as := [.int (nI (c4 - 1)), .ref 21]) dX8_byThoseThatStay_26 fw_X8_rowOf fl_X8_78 fm_X8_rowOf fe_X8_rowOf h19_29 (by decide) rfl rfl rfl (c_X8_rowOf hs (d := d - 1) (Nat.le_trans (by decide) hdm) (w := w24) (n := n) (mv := mv) (rw := rw_14) (nx := nx1) (b := b1) (bt := bt1) (kn := kn1) (en := en1) (dn := dn) (rf := rf) (kk := kk) (th := th) ⟨h19_29, h20_29, h21_29, h22_29, hb_29, hbl_29, hb3_29⟩ hn1 hn2 gm gr27 hgnx1 (c4 - 1) (by first | assumption | omega) (kc := 0) (ks := 0)) hdp (st := []) (Nat.le_of_ble_eq_true rfl) rfl (kr_V fun w34 hw34 => ?_) kx_V
          obtain ⟨rw34, hR34, hFc34, hgrw34, hp34_0⟩ := hw34
          obtain ⟨h19_34, h20_34, h21_34, h22_34, hbb_34, hbl_34, hb3_34⟩ := hR34
          have hF34 := hF26.tr hFc34
          have hPr := Pn_row (by omega) hp34_0
          refine J_iconst (pc := 29) (v := nI 1) dX8_byThoseThatStay_29 (by decide) ?_
          refine J_istore (pc := 30) dX8_byThoseThatStay_30 (by decide) rfl ?_
          show J X mX8_byThoseThatStay d (kc - 13) (ks - 2054) 32 [some (.ref 19), some (.int (nI s)), some (.int c), some (.int z3), some (.int (nI (c4 - 1))), some (.int (nI 1)), none] [] w34 _
          refine J_aload_n (pc := 32) dX8_byThoseThatStay_32 rfl rfl rfl ?_
          refine J_aload_n (pc := 33) dX8_byThoseThatStay_33 rfl rfl rfl ?_
          refine J_get (pc := 34) (k := 2) dX8_byThoseThatStay_34 kC9 (by decide) ff_X8_17 h19_34 rfl ?_
          refine J_iconst (pc := 37) (v := nI 0) dX8_byThoseThatStay_37 (by decide) ?_
          refine J_callV0 (pc := 38) (M := mX8_byThoseThatStay) (as := [.ref 21, .int (nI 0)]) dX8_byThoseThatStay_38 fw_X8_ringsOf fl_X8_203 fm_X8_ringsOf fe_X8_ringsOf h19_34 (by decide) rfl rfl rfl (c_X8_ringsOf_at21 hs (d := d - 1) (Nat.le_trans (by decide) hdm) (w := w34) (n := n) (mv := mv) (rw := rw34) (nx := nx1) (b := b1) (bt := bt1) (kn := kn1) (en := en1) (dn := dn) (rf := rf) (kk := kk) (th := th) ⟨h19_34, h20_34, h21_34, h22_34, hbb_34, hbl_34, hb3_34⟩ hn1 hn2 gm hgrw34 hgnx1 0 (by first | assumption | omega) (by exact Pn_z hPr) (kc := 0) (ks := 0)) hdp (st := []) (Nat.le_of_ble_eq_true rfl) rfl (kr_P fun v35 hv35 => ?_) kx_I
          obtain ⟨k35, rfl, hk35⟩ := hv35
          refine J_istore (pc := 41) dX8_byThoseThatStay_41 (by decide) rfl ?_
          show J X mX8_byThoseThatStay d (kc - 13) (ks - 2054) 43 [some (.ref 19), some (.int (nI s)), some (.int c), some (.int z3), some (.int (nI (c4 - 1))), some (.int (nI 1)), some (.int (nI k35))] [] w34 _
          have lp43_36 : ∀ (fuel : Nat) (z5 : Int32) (c6 : Nat), (c6 ≤ 7) → (c6 < fuel) → J X mX8_byThoseThatStay d (kc - 13) (ks - 2054) 43 [some (.ref 19), some (.int (nI s)), some (.int c), some (.int z3), some (.int (nI (c4 - 1))), some (.int z5), some (.int (nI c6))] [] w34 (pI (fun _ => True) (fun w' => ∃ (rw' : Nat → Nat), ∃ (nx' : Nat → Nat), ∃ (b' : Nat), ∃ (bt' : List Int32), ∃ (kn' : Int32), ∃ (en' : Int32), RM n mv rw' nx' b' bt' kn' en' dn rf kk th w' ∧ FR b b' w w' ∧ (∀ i, rw' i < 7) ∧ (∀ i, nx' i < 7) ∧ kn' = nI s ∧ BX n mv s bt')) := by
            intro fuellp43_36
            induction fuellp43_36 with
            | zero => intros; omega
            | succ fuellp43_36 ihlp43_36 =>
              intro z5 c6 hv43_0 hf37
              refine J_iload (pc := 43) dX8_byThoseThatStay_43 rfl ?_
              refine J_if_leN (pc := 45) (tgt := 60) dX8_byThoseThatStay_45 (by decide) (by omega) (fun ht38 => ?_) (fun hf39 => ?_)
              · refine J_iload_n (pc := 60) dX8_byThoseThatStay_60 rfl rfl ?_
                refine J_iload (pc := 61) dX8_byThoseThatStay_61 rfl ?_
                refine J_iadd (pc := 63) dX8_byThoseThatStay_63 (J_absI fun x40 => ?_)
                refine J_istore_n (pc := 64) dX8_byThoseThatStay_64 rfl (by decide) rfl ?_
                show J X mX8_byThoseThatStay d (kc - 13) (ks - 2054) 65 [some (.ref 19), some (.int (nI s)), some (.int c), some (.int x40), some (.int (nI (c4 - 1))), some (.int z5), some (.int (nI c6))] [] w34 _
                refine J_aload_n (pc := 65) dX8_byThoseThatStay_65 rfl rfl rfl ?_
                refine J_iload (pc := 66) dX8_byThoseThatStay_66 rfl ?_
                refine J_iconst (pc := 68) (v := nI 1) dX8_byThoseThatStay_68 (by decide) ?_
                refine J_iaddN (pc := 69) dX8_byThoseThatStay_69 ?_
                refine J_callV0 (pc := 70) (M := mX8_byThoseThatStay) (as := [.int (nI ((c4 - 1) + 1))]) dX8_byThoseThatStay_70 fw_X8_from fl_X8_137 fm_X8_from fe_X8_from h19_34 (by decide) rfl rfl rfl (c_X8_from hs (d := d - 1) (Nat.le_trans (by decide) hdm) (w := w34) (n := n) (mv := mv) (rw := rw34) (nx := nx1) (b := b1) (bt := bt1) (kn := kn1) (en := en1) (dn := dn) (rf := rf) (kk := kk) (th := th) ⟨h19_34, h20_34, h21_34, h22_34, hbb_34, hbl_34, hb3_34⟩ hn1 hn2 gm hgrw34 hgnx1 ((c4 - 1) + 1) (by first | assumption | omega) (kc := 0) (ks := 0)) hdp (st := []) (Nat.le_of_ble_eq_true rfl) rfl (kr_P fun v41 hv41 => ?_) kx_I
                rcases hv41 with ⟨rfl, hk41_0⟩ | ⟨q41, rfl, hk41_0, hk41_1, hk41_2, hk41_3⟩
                · refine J_istore (pc := 73) dX8_byThoseThatStay_73 (by decide) rfl ?_
                  show J X mX8_byThoseThatStay d (kc - 13) (ks - 2054) 75 [some (.ref 19), some (.int (nI s)), some (.int c), some (.int x40), some (.int (-1)), some (.int z5), some (.int (nI c6))] [] w34 _
                  refine J_goto (pc := 75) (tgt := 14) dX8_byThoseThatStay_75 (by decide) ?_
                  exact J_sub (L' := [some (.ref 19), some (.int (nI s)), some (.int c), some (.int x40), some (.int (nI 0 + Int32.ofInt (-1))), none, none]) ⟨rfl, ⟨rfl, ⟨rfl, ⟨rfl, ⟨(congrArg (fun z => some (Value.int z)) (by decide : (-1 : Int32) = nI 0 + Int32.ofInt (-1))), trivial⟩⟩⟩⟩⟩ (ihlp14_23 w34 rw34 x40 0 ⟨h19_34, h20_34, h21_34, h22_34, hbb_34, hbl_34, hb3_34⟩ hF34 hgrw34 (by first | assumption | omega) (by exact mu_dec (by assumption) (by omega) (by omega) (by omega)))
                · refine J_istore (pc := 73) dX8_byThoseThatStay_73 (by decide) rfl ?_
                  show J X mX8_byThoseThatStay d (kc - 13) (ks - 2054) 75 [some (.ref 19), some (.int (nI s)), some (.int c), some (.int x40), some (.int (nI q41)), some (.int z5), some (.int (nI c6))] [] w34 _
                  refine J_goto (pc := 75) (tgt := 14) dX8_byThoseThatStay_75 (by decide) ?_
                  exact J_sub (L' := [some (.ref 19), some (.int (nI s)), some (.int c), some (.int x40), some (.int (nI (q41 + 1) + Int32.ofInt (-1))), none, none]) ⟨rfl, ⟨rfl, ⟨rfl, ⟨rfl, ⟨(congrArg (fun z => some (Value.int z)) (nI_n1 q41)), trivial⟩⟩⟩⟩⟩ (ihlp14_23 w34 rw34 x40 (q41 + 1) ⟨h19_34, h20_34, h21_34, h22_34, hbb_34, hbl_34, hb3_34⟩ hF34 hgrw34 (by first | assumption | omega) (by exact mu_dec (by assumption) (by omega) (by omega) (by omega)))
              · refine J_iload (pc := 48) dX8_byThoseThatStay_48 rfl ?_
                refine J_iload_n (pc := 50) dX8_byThoseThatStay_50 rfl rfl ?_
                refine J_imul (pc := 51) dX8_byThoseThatStay_51 (J_absI fun x42 => ?_)
                refine J_istore (pc := 52) dX8_byThoseThatStay_52 (by decide) rfl ?_
                show J X mX8_byThoseThatStay d (kc - 13) (ks - 2054) 54 [some (.ref 19), some (.int (nI s)), some (.int c), some (.int z3), some (.int (nI (c4 - 1))), some (.int x42), some (.int (nI c6))] [] w34 _
                refine J_iincM (pc := 54) dX8_byThoseThatStay_54 rfl (by omega) (by decide) rfl ?_
                show J X mX8_byThoseThatStay d (kc - 13) (ks - 2054) 57 [some (.ref 19), some (.int (nI s)), some (.int c), some (.int z3), some (.int (nI (c4 - 1))), some (.int x42), some (.int (nI (c6 - 1)))] [] w34 _
                refine J_goto (pc := 57) (tgt := 43) dX8_byThoseThatStay_57 (by decide) ?_
                exact J_sub (L' := [some (.ref 19), some (.int (nI s)), some (.int c), some (.int z3), some (.int (nI (c4 - 1))), some (.int x42), some (.int (nI (c6 - 1)))]) ⟨rfl, ⟨rfl, ⟨rfl, ⟨rfl, ⟨rfl, ⟨rfl, ⟨rfl, trivial⟩⟩⟩⟩⟩⟩⟩ (ihlp43_36 x42 (c6 - 1) (by first | assumption | omega) (by omega))
          exact J_sub (L' := [some (.ref 19), some (.int (nI s)), some (.int c), some (.int z3), some (.int (nI (c4 - 1))), some (.int (nI 1)), some (.int (nI k35))]) ⟨rfl, ⟨rfl, ⟨rfl, ⟨rfl, ⟨rfl, ⟨rfl, ⟨rfl, trivial⟩⟩⟩⟩⟩⟩⟩ (lp43_36 _ (nI 1) k35 (by first | assumption | omega) (Nat.lt_succ_self _))
    exact J_sub (L' := [some (.ref 19), some (.int (nI s)), some (.int c), some (.int (nI 0)), some (.int (nI (q2 + 1) + Int32.ofInt (-1))), none, none]) ⟨rfl, ⟨rfl, ⟨rfl, ⟨rfl, ⟨(congrArg (fun z => some (Value.int z)) (nI_n1 q2)), trivial⟩⟩⟩⟩⟩ (lp14_23 _ w1 rw1 (nI 0) (q2 + 1) ⟨h19_1, h20_1, h21_1, h22_1, hbb_1, hbl_1, hb3_1⟩ hF1 hgrw1 (by first | assumption | omega) (Nat.lt_succ_self _))
