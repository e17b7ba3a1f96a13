section
/-! what is asked of the reference's groups, exactly -/
theorem isN_2 {a : Int32} (h1 : ¬ a < 0) (h2 : a ≤ nI 1) : isN a 2 := by
  obtain ⟨k, hk, rfl⟩ := nI_nn (Int32.not_lt.mp h1)
  exact ⟨k, by have := (nI_leI hk (by omega)).mp h2; omega, rfl⟩
set_option maxRecDepth 100000 in
set_option maxHeartbeats 4000000 in
theorem c_X8_reachNow_atx {X : jX} (hs : X.1.stackTraces = false) {d : Nat} (hd : 4 ≤ d) {n : Nat} {mv rw nx : Nat → Nat} {b : Nat} {bt : List Int32} {kn en dn rf kk th : Int32} {w : List jC} (hR : RM n mv rw nx b bt kn en dn rf kk th w) (hn1 : 2 ≤ n) (hn2 : n ≤ 7) (gm : ∀ i, mv i < 7) (gr : ∀ i, rw i < 7) (gx : ∀ i, nx i < 7) (s : Nat) (a : Nat) (c : Nat) (hy0 : s < 64) (hy1 : PM n mv) (hy2 : KX n mv kn bt) (hy3 : a < 6) (hy4 : c < n) {kc ks : Nat} (hkc : 13 ≤ kc) (hks : 2054 ≤ ks) : jMet X mX8_reachNow d kc ks [.ref 19, .int (nI s), .int (nI a), .int (nI c)] w (pI (fun v => v = nI (sBv (RP n (Gg n (gS (mW n mv) s 6)) (fun j => mv (a * 7 + j)) c) n)) (fun w' => ∃ (rw' : Nat → Nat), ∃ (nx' : Nat → Nat), ∃ (b' : Nat), ∃ (bt' : List Int32), ∃ (kn' : Int32), ∃ (en' : Int32), RM n mv rw' nx' b' bt' kn' en' dn rf kk th w' ∧ FR b b' w w' ∧ (∀ i, rw' i < 7) ∧ (∀ i, nx' i < 7) ∧ kn' = nI s ∧ BX n mv s bt')) := by
  refine jMet_of hs (by decide +kernel) (Nat.le_of_ble_eq_true rfl) (L := [some (.ref 19), some (.int (nI s)), some (.int (nI a)), some (.int (nI c)), none, none, none, none]) rfl ?_
  have hdm : 3 ≤ d - 1 := by omega
  have hdp : d - 1 + 1 ≤ d := by omega
  have hfc := fc_7 hn2
  have hfp := fc_pos n
  obtain ⟨h19, h20, h21, h22, hbb, hbl, hb3⟩ := hR
  have hF : FR b b w w := FR.rf
  refine J_aload_n (pc := 0) dX8_reachNow_0 rfl rfl rfl ?_
  refine J_iload_n (pc := 1) dX8_reachNow_1 rfl rfl ?_
  refine J_callV (pc := 2) (M := mX8_reachNow) (as := [.int (nI s)]) dX8_reachNow_2 fw_X8_group fl_X8_99 fm_X8_group fe_X8_group h19 (by decide) rfl rfl rfl (c_X8_group_ate hs (d := d - 1) (Nat.le_trans (by decide) hdm) (w := w) (n := n) (mv := mv) (rw := rw) (nx := nx) (b := b) (bt := bt) (kn := kn) (en := en) (dn := dn) (rf := rf) (kk := kk) (th := th) ⟨h19, h20, h21, h22, hbb, hbl, hb3⟩ hn1 hn2 gm gr gx s (by first | assumption | omega) (by first | assumption | omega) (by first | assumption | omega) (kc := 13) (ks := 2054) (Nat.le_refl _) (Nat.le_refl _)) hdp (by omega) (by omega) (st := []) (Nat.le_of_ble_eq_true rfl) rfl (kr_V fun w1 hw1 => ?_) kx_V
  obtain ⟨rw1, nx1, b1, bt1, kn1, en1, hR1, hFc1, hgrw1, hgnx1, hp1_0, hp1_1⟩ := hw1
  obtain ⟨h19_1, h20_1, h21_1, h22_1, hbb_1, hbl_1, hb3_1⟩ := hR1
  have qd1 := hFc1.2.1
  have hF1 := hF.tr hFc1
  have hBX := hp1_1
  refine J_iconst (pc := 5) (v := nI 0) dX8_reachNow_5 (by decide) ?_
  refine J_istore (pc := 6) dX8_reachNow_6 (by decide) rfl ?_
  show J X mX8_reachNow d (kc - 13) (ks - 2054) 8 [some (.ref 19), some (.int (nI s)), some (.int (nI a)), some (.int (nI c)), some (.int (nI 0)), none, none, none] [] w1 _
  refine J_aload_n (pc := 8) dX8_reachNow_8 rfl rfl rfl ?_
  refine J_iconst (pc := 9) (v := nI 0) dX8_reachNow_9 (by decide) ?_
  refine J_callV0 (pc := 10) (M := mX8_reachNow) (as := [.int (nI 0)]) dX8_reachNow_10 fw_X8_from fl_X8_137 fm_X8_from fe_X8_from h19_1 (by decide) rfl rfl rfl (c_X8_from hs (d := d - 1) (Nat.le_trans (by decide) hdm) (w := w1) (n := n) (mv := mv) (rw := rw1) (nx := nx1) (b := b1) (bt := bt1) (kn := kn1) (en := en1) (dn := dn) (rf := rf) (kk := kk) (th := th) ⟨h19_1, h20_1, h21_1, h22_1, hbb_1, hbl_1, hb3_1⟩ hn1 hn2 gm hgrw1 hgnx1 0 (by first | assumption | omega) (kc := 0) (ks := 0)) hdp (st := []) (Nat.le_of_ble_eq_true rfl) rfl (kr_P fun v2 hv2 => ?_) kx_I
  rcases hv2 with ⟨rfl, hk2_0⟩ | ⟨q2, rfl, hk2_0, hk2_1, hk2_2, hk2_3⟩
  · refine J_istore (pc := 13) dX8_reachNow_13 (by decide) rfl ?_
    show J X mX8_reachNow d (kc - 13) (ks - 2054) 15 [some (.ref 19), some (.int (nI s)), some (.int (nI a)), some (.int (nI c)), some (.int (nI 0)), some (.int (-1)), none, none] [] w1 _
    have lp15_3 : ∀ (fuel : Nat) (w4 : List jC) (rw_15 : Nat → Nat) (z4 : Nat) (c5 : Nat), (RM n mv rw_15 nx1 b1 bt1 kn1 en1 dn rf kk th w4) → (FR b b1 w w4) → (∀ i, rw_15 i < 7) → (c5 ≤ fc n) → (0 < c5 → bitL bt1 (c5 - 1) = true) → (RBt n bt1 (fun j => mv (a * 7 + j)) c z4 (KK (fc n) c5)) → (mu (fc n) c5 < fuel) → J X mX8_reachNow d (kc - 13) (ks - 2054) 15 [some (.ref 19), some (.int (nI s)), some (.int (nI a)), some (.int (nI c)), some (.int (nI z4)), some (.int (nI c5 + Int32.ofInt (-1))), none, none] [] w4 (pI (fun v => v = nI (sBv (RP n (Gg n (gS (mW n mv) s 6)) (fun j => mv (a * 7 + j)) c) n)) (fun w' => ∃ (rw' : Nat → Nat), ∃ (nx' : Nat → Nat), ∃ (b' : Nat), ∃ (bt' : List Int32), ∃ (kn' : Int32), ∃ (en' : Int32), RM n mv rw' nx' b' bt' kn' en' dn rf kk th w' ∧ FR b b' w w' ∧ (∀ i, rw' i < 7) ∧ (∀ i, nx' i < 7) ∧ kn' = nI s ∧ BX n mv s bt')) := by
      intro fuellp15_3
      induction fuellp15_3 with
      | zero => intros; omega
      | succ fuellp15_3 ihlp15_3 =>
        intro w4 rw_15 z4 c5 hR5 hF6 gr7 hv15_0 hv15_1 hv15_2 hf8
        obtain ⟨h19_9, h20_9, h21_9, h22_9, hb_9, hbl_9, hb3_9⟩ := hR5
        refine J_iload (pc := 15) dX8_reachNow_15 rfl ?_
        refine J_if_ltM (pc := 17) (tgt := 116) dX8_reachNow_17 (by decide) (by omega) (fun ht10 => ?_) (fun hf11 => ?_)
        · refine J_iload (pc := 116) dX8_reachNow_116 rfl ?_
          exact J_iret (pc := 118) dX8_reachNow_118 rfl ⟨(congrArg nI (by exact RBt_end (by omega) hn2 hBX (fun j hj => (hy1 a hy3).1 j hj) hy4 (by have h := hv15_2; rw [show c5 = 0 by omega, KK_0] at h; exact h))), ⟨rw_15, nx1, b1, bt1, kn1, en1, ⟨h19_9, h20_9, h21_9, h22_9, hb_9, hbl_9, hb3_9⟩, hF6, gr7, hgnx1, (by first | rfl | assumption), (by first | assumption | exact hBX)⟩⟩
        · rw [nI_m1 hf11]
          have hb15 := hv15_1 (by omega)
          have hprev : RBt n bt1 (fun j => mv (a * 7 + j)) c z4 (c5 - 1) := by
            have h := hv15_2
            rw [KK_p (by omega)] at h
            exact h
          have hcn := (hy1 a hy3).1 c hy4
          refine J_aload_n (pc := 20) dX8_reachNow_20 rfl rfl rfl ?_
          refine J_iload (pc := 21) dX8_reachNow_21 rfl ?_
          refine J_aload_n (pc := 23) dX8_reachNow_23 rfl rfl rfl ?_
          refine J_get (pc := 24) (k := 2) dX8_reachNow_24 kC9 (by decide) ff_X8_17 h19_9 rfl ?_
          refine J_callV0 (pc := 27) (M := mX8_reachNow) (as := [.int (nI (c5 - 1)), .ref 21]) dX8_reachNow_27 fw_X8_rowOf fl_X8_78 fm_X8_rowOf fe_X8_rowOf h19_9 (by decide) rfl rfl rfl (c_X8_rowOf hs (d := d - 1) (Nat.le_trans (by decide) hdm) (w := w4) (n := n) (mv := mv) (rw := rw_15) (nx := nx1) (b := b1) (bt := bt1) (kn := kn1) (en := en1) (dn := dn) (rf := rf) (kk := kk) (th := th) ⟨h19_9, h20_9, h21_9, h22_9, hb_9, hbl_9, hb3_9⟩ hn1 hn2 gm gr7 hgnx1 (c5 - 1) (by first | assumption | omega) (kc := 0) (ks := 0)) hdp (st := []) (Nat.le_of_ble_eq_true rfl) rfl (kr_V fun w12 hw12 => ?_) kx_V
          obtain ⟨rw12, hR12, hFc12, hgrw12, hp12_0⟩ := hw12
          obtain ⟨h19_12, h20_12, h21_12, h22_12, hbb_12, hbl_12, hb3_12⟩ := hR12
          have hF12 := hF6.tr hFc12
          have hrow := hp12_0
          refine J_iconst (pc := 30) (v := nI 1) dX8_reachNow_30 (by decide) ?_
          refine J_istore (pc := 31) dX8_reachNow_31 (by decide) rfl ?_
          show J X mX8_reachNow d (kc - 13) (ks - 2054) 33 [some (.ref 19), some (.int (nI s)), some (.int (nI a)), some (.int (nI c)), some (.int (nI z4)), some (.int (nI (c5 - 1))), some (.int (nI 1)), none] [] w12 _
          refine J_iconst (pc := 33) (v := nI 0) dX8_reachNow_33 (by decide) ?_
          refine J_istore (pc := 34) dX8_reachNow_34 (by decide) rfl ?_
          show J X mX8_reachNow d (kc - 13) (ks - 2054) 36 [some (.ref 19), some (.int (nI s)), some (.int (nI a)), some (.int (nI c)), some (.int (nI z4)), some (.int (nI (c5 - 1))), some (.int (nI 1)), some (.int (nI 0))] [] w12 _
          have lp36_13 : ∀ (fuel : Nat) (y6 : Nat) (c7 : Nat), (y6 < 2) → (c7 ≤ c) → (STt rw12 (fun j => mv (a * 7 + j)) c c7 y6) → (c - c7 < fuel) → J X mX8_reachNow d (kc - 13) (ks - 2054) 36 [some (.ref 19), some (.int (nI s)), some (.int (nI a)), some (.int (nI c)), some (.int (nI z4)), some (.int (nI (c5 - 1))), some (.int (nI y6)), some (.int (nI c7))] [] w12 (pI (fun v => v = nI (sBv (RP n (Gg n (gS (mW n mv) s 6)) (fun j => mv (a * 7 + j)) c) n)) (fun w' => ∃ (rw' : Nat → Nat), ∃ (nx' : Nat → Nat), ∃ (b' : Nat), ∃ (bt' : List Int32), ∃ (kn' : Int32), ∃ (en' : Int32), RM n mv rw' nx' b' bt' kn' en' dn rf kk th w' ∧ FR b b' w w' ∧ (∀ i, rw' i < 7) ∧ (∀ i, nx' i < 7) ∧ kn' = nI s ∧ BX n mv s bt')) := by
            intro fuellp36_13
            induction fuellp36_13 with
            | zero => intros; omega
            | succ fuellp36_13 ihlp36_13 =>
              intro y6 c7 hv36_0 hv36_1 hv36_2 hf14
              refine J_iload (pc := 36) dX8_reachNow_36 rfl ?_
              refine J_iload_n (pc := 38) dX8_reachNow_38 rfl rfl ?_
              refine J_icmp_geN (pc := 39) (tgt := 80) dX8_reachNow_39 (by decide) (by omega) (by omega) (fun ht15 => ?_) (fun hf16 => ?_)
              · have hgg : ∀ j, j < c → rw12 ((fun j => mv (a * 7 + j)) j) = rwF n (c5 - 1) ((fun j => mv (a * 7 + j)) j) := fun j hj => hrow _ ((hy1 a hy3).1 j (by omega))
                refine J_iload (pc := 80) dX8_reachNow_80 rfl ?_
                refine J_if_eqN (pc := 82) (tgt := 103) dX8_reachNow_82 (by decide) (by omega) (fun ht17 => ?_) (fun hf18 => ?_)
                · have hst : RBt n bt1 (fun j => mv (a * 7 + j)) c z4 (c5 - 1 + 1) := by first | exact RBt_s hprev hb15 hyes (hrow _ hcn) (by omega) | exact RBt_n hprev (STt_f (rd := (fun j => mv (a * 7 + j))) hv36_2 (by assumption) hgg)
                  refine J_aload_n (pc := 103) dX8_reachNow_103 rfl rfl rfl ?_
                  refine J_iload (pc := 104) dX8_reachNow_104 rfl ?_
                  refine J_iconst (pc := 106) (v := nI 1) dX8_reachNow_106 (by decide) ?_
                  refine J_iaddN (pc := 107) dX8_reachNow_107 ?_
                  refine J_callV0 (pc := 108) (M := mX8_reachNow) (as := [.int (nI ((c5 - 1) + 1))]) dX8_reachNow_108 fw_X8_from fl_X8_137 fm_X8_from fe_X8_from h19_12 (by decide) rfl rfl rfl (c_X8_from hs (d := d - 1) (Nat.le_trans (by decide) hdm) (w := w12) (n := n) (mv := mv) (rw := rw12) (nx := nx1) (b := b1) (bt := bt1) (kn := kn1) (en := en1) (dn := dn) (rf := rf) (kk := kk) (th := th) ⟨h19_12, h20_12, h21_12, h22_12, hbb_12, hbl_12, hb3_12⟩ hn1 hn2 gm hgrw12 hgnx1 ((c5 - 1) + 1) (by first | assumption | omega) (kc := 0) (ks := 0)) hdp (st := []) (Nat.le_of_ble_eq_true rfl) rfl (kr_P fun v19 hv19 => ?_) kx_I
                  rcases hv19 with ⟨rfl, hk19_0⟩ | ⟨q19, rfl, hk19_0, hk19_1, hk19_2, hk19_3⟩
                  · refine J_istore (pc := 111) dX8_reachNow_111 (by decide) rfl ?_
                    show J X mX8_reachNow d (kc - 13) (ks - 2054) 113 [some (.ref 19), some (.int (nI s)), some (.int (nI a)), some (.int (nI c)), some (.int (nI z4)), some (.int (-1)), some (.int (nI y6)), some (.int (nI c7))] [] w12 _
                    refine J_goto (pc := 113) (tgt := 15) dX8_reachNow_113 (by decide) ?_
                    exact J_sub (L' := [some (.ref 19), some (.int (nI s)), some (.int (nI a)), some (.int (nI c)), some (.int (nI z4)), some (.int (nI 0 + Int32.ofInt (-1))), none, none]) ⟨rfl, ⟨rfl, ⟨rfl, ⟨rfl, ⟨rfl, ⟨(congrArg (fun z => some (Value.int z)) (by decide : (-1 : Int32) = nI 0 + Int32.ofInt (-1))), trivial⟩⟩⟩⟩⟩⟩ (ihlp15_3 w12 rw12 z4 0 ⟨h19_12, h20_12, h21_12, h22_12, hbb_12, hbl_12, hb3_12⟩ hF12 hgrw12 (by first | assumption | omega) (by intro h; first | (rw [Nat.add_sub_cancel]; assumption) | omega) (by first | exact KI_0 RBt_f hst (by omega) (by assumption) | exact KI_1 RBt_f hst (by omega) (by assumption)) (by exact mu_dec (by assumption) (by omega) (by omega) (by omega)))
                  · refine J_istore (pc := 111) dX8_reachNow_111 (by decide) rfl ?_
                    show J X mX8_reachNow d (kc - 13) (ks - 2054) 113 [some (.ref 19), some (.int (nI s)), some (.int (nI a)), some (.int (nI c)), some (.int (nI z4)), some (.int (nI q19)), some (.int (nI y6)), some (.int (nI c7))] [] w12 _
                    refine J_goto (pc := 113) (tgt := 15) dX8_reachNow_113 (by decide) ?_
                    exact J_sub (L' := [some (.ref 19), some (.int (nI s)), some (.int (nI a)), some (.int (nI c)), some (.int (nI z4)), some (.int (nI (q19 + 1) + Int32.ofInt (-1))), none, none]) ⟨rfl, ⟨rfl, ⟨rfl, ⟨rfl, ⟨rfl, ⟨(congrArg (fun z => some (Value.int z)) (nI_n1 q19)), trivial⟩⟩⟩⟩⟩⟩ (ihlp15_3 w12 rw12 z4 (q19 + 1) ⟨h19_12, h20_12, h21_12, h22_12, hbb_12, hbl_12, hb3_12⟩ hF12 hgrw12 (by first | assumption | omega) (by intro h; first | (rw [Nat.add_sub_cancel]; assumption) | omega) (by first | exact KI_0 RBt_f hst (by omega) (by assumption) | exact KI_1 RBt_f hst (by omega) (by assumption)) (by exact mu_dec (by assumption) (by omega) (by omega) (by omega)))
                · have hyes := STt_y (rd := (fun j => mv (a * 7 + j))) (g := rwF n (c5 - 1)) hv36_2 (by omega) (by assumption) hgg
                  have hrv : rw12 (mv (a * 7 + c)) < n := by rw [hrow _ hcn]; exact (rwF_Pn (by omega)).1 _ hcn
                  have hz4 := hprev.1
                  have hp2 : 2 ^ rw12 (mv (a * 7 + c)) < 2 ^ 31 := Nat.pow_lt_pow_right (by decide) (by omega)
                  refine J_iload (pc := 85) dX8_reachNow_85 rfl ?_
                  refine J_iconst (pc := 87) (v := nI 1) dX8_reachNow_87 (by decide) ?_
                  refine J_aload_n (pc := 88) dX8_reachNow_88 rfl rfl rfl ?_
                  refine J_get (pc := 89) (k := 2) dX8_reachNow_89 kC9 (by decide) ff_X8_17 h19_12 rfl ?_
                  refine J_aload_n (pc := 92) dX8_reachNow_92 rfl rfl rfl ?_
                  refine J_iload_n (pc := 93) dX8_reachNow_93 rfl rfl ?_
                  refine J_iload_n (pc := 94) dX8_reachNow_94 rfl rfl ?_
                  refine J_callV0 (pc := 95) (M := mX8_reachNow) (as := [.int (nI a), .int (nI c)]) dX8_reachNow_95 fw_X8_at fl_X8_82 fm_X8_at fe_X8_at h19_12 (by decide) rfl rfl rfl (c_X8_at hs (d := d - 1) (Nat.le_trans (by decide) hdm) (w := w12) (n := n) (mv := mv) (rw := rw12) (nx := nx1) (b := b1) (bt := bt1) (kn := kn1) (en := en1) (dn := dn) (rf := rf) (kk := kk) (th := th) ⟨h19_12, h20_12, h21_12, h22_12, hbb_12, hbl_12, hb3_12⟩ hn1 hn2 gm hgrw12 hgnx1 a c (by first | assumption | omega) (by first | assumption | omega) (kc := 0) (ks := 0)) hdp (st := [.ref 21, .int (nI 1), .int (nI z4)]) (Nat.le_of_ble_eq_true rfl) rfl (kr_P fun v20 hv20 => ?_) kx_I
                  subst hv20
                  have hq21 := gm (a * 7 + c)
                  refine J_ialdF (pc := 98) dX8_reachNow_98 h21_12 (by omega) (by decide) ?_
                  have hq22 := hgrw12 (mv (a * 7 + c))
                  refine J_shlOne (pc := 99) dX8_reachNow_99 (by omega) ?_
                  refine J_iorN (pc := 100) dX8_reachNow_100 (by omega) (by omega) ?_
                  refine J_istore (pc := 101) dX8_reachNow_101 (by decide) rfl ?_
                  show J X mX8_reachNow d (kc - 13) (ks - 2054) 103 [some (.ref 19), some (.int (nI s)), some (.int (nI a)), some (.int (nI c)), some (.int (nI (z4 ||| (2 ^ (rw12 (mv (a * 7 + c))))))), some (.int (nI (c5 - 1))), some (.int (nI y6)), some (.int (nI c7))] [] w12 _
                  have hst : RBt n bt1 (fun j => mv (a * 7 + j)) c (z4 ||| (2 ^ (rw12 (mv (a * 7 + c))))) (c5 - 1 + 1) := by first | exact RBt_s hprev hb15 hyes (hrow _ hcn) (by omega) | exact RBt_n hprev (STt_f (rd := (fun j => mv (a * 7 + j))) hv36_2 (by assumption) hgg)
                  refine J_aload_n (pc := 103) dX8_reachNow_103 rfl rfl rfl ?_
                  refine J_iload (pc := 104) dX8_reachNow_104 rfl ?_
                  refine J_iconst (pc := 106) (v := nI 1) dX8_reachNow_106 (by decide) ?_
                  refine J_iaddN (pc := 107) dX8_reachNow_107 ?_
                  refine J_callV0 (pc := 108) (M := mX8_reachNow) (as := [.int (nI ((c5 - 1) + 1))]) dX8_reachNow_108 fw_X8_from fl_X8_137 fm_X8_from fe_X8_from h19_12 (by decide) rfl rfl rfl (c_X8_from hs (d := d - 1) (Nat.le_trans (by decide) hdm) (w := w12) (n := n) (mv := mv) (rw := rw12) (nx := nx1) (b := b1) (bt := bt1) (kn := kn1) (en := en1) (dn := dn) (rf := rf) (kk := kk) (th := th) ⟨h19_12, h20_12, h21_12, h22_12, hbb_12, hbl_12, hb3_12⟩ hn1 hn2 gm hgrw12 hgnx1 ((c5 - 1) + 1) (by first | assumption | omega) (kc := 0) (ks := 0)) hdp (st := []) (Nat.le_of_ble_eq_true rfl) rfl (kr_P fun v23 hv23 => ?_) kx_I
                  rcases hv23 with ⟨rfl, hk23_0⟩ | ⟨q23, rfl, hk23_0, hk23_1, hk23_2, hk23_3⟩
                  · refine J_istore (pc := 111) dX8_reachNow_111 (by decide) rfl ?_
                    show J X mX8_reachNow d (kc - 13) (ks - 2054) 113 [some (.ref 19), some (.int (nI s)), some (.int (nI a)), some (.int (nI c)), some (.int (nI (z4 ||| (2 ^ (rw12 (mv (a * 7 + c))))))), some (.int (-1)), some (.int (nI y6)), some (.int (nI c7))] [] w12 _
                    refine J_goto (pc := 113) (tgt := 15) dX8_reachNow_113 (by decide) ?_
                    exact J_sub (L' := [some (.ref 19), some (.int (nI s)), some (.int (nI a)), some (.int (nI c)), some (.int (nI (z4 ||| (2 ^ (rw12 (mv (a * 7 + c))))))), some (.int (nI 0 + Int32.ofInt (-1))), none, none]) ⟨rfl, ⟨rfl, ⟨rfl, ⟨rfl, ⟨rfl, ⟨(congrArg (fun z => some (Value.int z)) (by decide : (-1 : Int32) = nI 0 + Int32.ofInt (-1))), trivial⟩⟩⟩⟩⟩⟩ (ihlp15_3 w12 rw12 (z4 ||| (2 ^ (rw12 (mv (a * 7 + c))))) 0 ⟨h19_12, h20_12, h21_12, h22_12, hbb_12, hbl_12, hb3_12⟩ hF12 hgrw12 (by first | assumption | omega) (by intro h; first | (rw [Nat.add_sub_cancel]; assumption) | omega) (by first | exact KI_0 RBt_f hst (by omega) (by assumption) | exact KI_1 RBt_f hst (by omega) (by assumption)) (by exact mu_dec (by assumption) (by omega) (by omega) (by omega)))
                  · refine J_istore (pc := 111) dX8_reachNow_111 (by decide) rfl ?_
                    show J X mX8_reachNow d (kc - 13) (ks - 2054) 113 [some (.ref 19), some (.int (nI s)), some (.int (nI a)), some (.int (nI c)), some (.int (nI (z4 ||| (2 ^ (rw12 (mv (a * 7 + c))))))), some (.int (nI q23)), some (.int (nI y6)), some (.int (nI c7))] [] w12 _
                    refine J_goto (pc := 113) (tgt := 15) dX8_reachNow_113 (by decide) ?_
                    exact J_sub (L' := [some (.ref 19), some (.int (nI s)), some (.int (nI a)), some (.int (nI c)), some (.int (nI (z4 ||| (2 ^ (rw12 (mv (a * 7 + c))))))), some (.int (nI (q23 + 1) + Int32.ofInt (-1))), none, none]) ⟨rfl, ⟨rfl, ⟨rfl, ⟨rfl, ⟨rfl, ⟨(congrArg (fun z => some (Value.int z)) (nI_n1 q23)), trivial⟩⟩⟩⟩⟩⟩ (ihlp15_3 w12 rw12 (z4 ||| (2 ^ (rw12 (mv (a * 7 + c))))) (q23 + 1) ⟨h19_12, h20_12, h21_12, h22_12, hbb_12, hbl_12, hb3_12⟩ hF12 hgrw12 (by first | assumption | omega) (by intro h; first | (rw [Nat.add_sub_cancel]; assumption) | omega) (by first | exact KI_0 RBt_f hst (by omega) (by assumption) | exact KI_1 RBt_f hst (by omega) (by assumption)) (by exact mu_dec (by assumption) (by omega) (by omega) (by omega)))
              · refine J_iload (pc := 42) dX8_reachNow_42 rfl ?_
                refine J_aload_n (pc := 44) dX8_reachNow_44 rfl rfl rfl ?_
                refine J_get (pc := 45) (k := 2) dX8_reachNow_45 kC9 (by decide) ff_X8_17 h19_12 rfl ?_
                refine J_aload_n (pc := 48) dX8_reachNow_48 rfl rfl rfl ?_
                refine J_iload_n (pc := 49) dX8_reachNow_49 rfl rfl ?_
                refine J_iload (pc := 50) dX8_reachNow_50 rfl ?_
                refine J_callV0 (pc := 52) (M := mX8_reachNow) (as := [.int (nI a), .int (nI c7)]) dX8_reachNow_52 fw_X8_at fl_X8_82 fm_X8_at fe_X8_at h19_12 (by decide) rfl rfl rfl (c_X8_at hs (d := d - 1) (Nat.le_trans (by decide) hdm) (w := w12) (n := n) (mv := mv) (rw := rw12) (nx := nx1) (b := b1) (bt := bt1) (kn := kn1) (en := en1) (dn := dn) (rf := rf) (kk := kk) (th := th) ⟨h19_12, h20_12, h21_12, h22_12, hbb_12, hbl_12, hb3_12⟩ hn1 hn2 gm hgrw12 hgnx1 a c7 (by first | assumption | omega) (by first | assumption | omega) (kc := 0) (ks := 0)) hdp (st := [.ref 21, .int (nI y6)]) (Nat.le_of_ble_eq_true rfl) rfl (kr_P fun v24 hv24 => ?_) kx_I
                subst hv24
                have hq25 := gm (a * 7 + c7)
                refine J_ialdF (pc := 55) dX8_reachNow_55 h21_12 (by omega) (by decide) ?_
                have hq26 := hgrw12 (mv (a * 7 + c7))
                refine J_aload_n (pc := 56) dX8_reachNow_56 rfl rfl rfl ?_
                refine J_iload_n (pc := 57) dX8_reachNow_57 rfl rfl ?_
                refine J_iload (pc := 58) dX8_reachNow_58 rfl ?_
                refine J_callV0 (pc := 60) (M := mX8_reachNow) (as := [.int (nI a), .int (nI c7)]) dX8_reachNow_60 fw_X8_at fl_X8_82 fm_X8_at fe_X8_at h19_12 (by decide) rfl rfl rfl (c_X8_at hs (d := d - 1) (Nat.le_trans (by decide) hdm) (w := w12) (n := n) (mv := mv) (rw := rw12) (nx := nx1) (b := b1) (bt := bt1) (kn := kn1) (en := en1) (dn := dn) (rf := rf) (kk := kk) (th := th) ⟨h19_12, h20_12, h21_12, h22_12, hbb_12, hbl_12, hb3_12⟩ hn1 hn2 gm hgrw12 hgnx1 a c7 (by first | assumption | omega) (by first | assumption | omega) (kc := 0) (ks := 0)) hdp (st := [.int (nI (rw12 (mv (a * 7 + c7)))), .int (nI y6)]) (Nat.le_of_ble_eq_true rfl) rfl (kr_P fun v27 hv27 => ?_) kx_I
                subst hv27
                have hq28 := gm (a * 7 + c7)
                refine J_icmp_neN (pc := 63) (tgt := 70) dX8_reachNow_63 (by decide) (by omega) (by omega) (fun ht29 => ?_) (fun hf30 => ?_)
                · refine J_iconst (pc := 70) (v := nI 0) dX8_reachNow_70 (by decide) ?_
                  refine J_iand1 (pc := 71) dX8_reachNow_71 (by omega) (by omega) ?_
                  refine J_istore (pc := 72) dX8_reachNow_72 (by decide) rfl ?_
                  show J X mX8_reachNow d (kc - 13) (ks - 2054) 74 [some (.ref 19), some (.int (nI s)), some (.int (nI a)), some (.int (nI c)), some (.int (nI z4)), some (.int (nI (c5 - 1))), some (.int (nI (y6 * 0))), some (.int (nI c7))] [] w12 _
                  refine J_iincN (pc := 74) (b := 1) dX8_reachNow_74 rfl (by decide) (by decide) rfl ?_
                  show J X mX8_reachNow d (kc - 13) (ks - 2054) 77 [some (.ref 19), some (.int (nI s)), some (.int (nI a)), some (.int (nI c)), some (.int (nI z4)), some (.int (nI (c5 - 1))), some (.int (nI (y6 * 0))), some (.int (nI (c7 + 1)))] [] w12 _
                  refine J_goto (pc := 77) (tgt := 36) dX8_reachNow_77 (by decide) ?_
                  exact J_sub (L' := [some (.ref 19), some (.int (nI s)), some (.int (nI a)), some (.int (nI c)), some (.int (nI z4)), some (.int (nI (c5 - 1))), some (.int (nI (y6 * 0))), some (.int (nI (c7 + 1)))]) ⟨rfl, ⟨rfl, ⟨rfl, ⟨rfl, ⟨rfl, ⟨rfl, ⟨rfl, ⟨rfl, trivial⟩⟩⟩⟩⟩⟩⟩⟩ (ihlp36_13 (y6 * 0) (c7 + 1) (by first | assumption | omega) (by first | assumption | omega) (by first | exact STt_1 (rd := (fun j => mv (a * 7 + j))) hv36_2 (by assumption) | exact STt_n (rd := (fun j => mv (a * 7 + j))) (by omega) (by assumption)) (by omega))
                · refine J_iconst (pc := 66) (v := nI 1) dX8_reachNow_66 (by decide) ?_
                  refine J_goto (pc := 67) (tgt := 71) dX8_reachNow_67 (by decide) ?_
                  have hm31 := Nat.mod_lt y6 (show 0 < 2 ^ 1 by decide)
                  refine J_iandN (pc := 71) 1 dX8_reachNow_71 (by omega) (by decide) ?_
                  refine J_istore (pc := 72) dX8_reachNow_72 (by decide) rfl ?_
                  show J X mX8_reachNow d (kc - 13) (ks - 2054) 74 [some (.ref 19), some (.int (nI s)), some (.int (nI a)), some (.int (nI c)), some (.int (nI z4)), some (.int (nI (c5 - 1))), some (.int (nI (y6 % 2 ^ 1))), some (.int (nI c7))] [] w12 _
                  refine J_iincN (pc := 74) (b := 1) dX8_reachNow_74 rfl (by decide) (by decide) rfl ?_
                  show J X mX8_reachNow d (kc - 13) (ks - 2054) 77 [some (.ref 19), some (.int (nI s)), some (.int (nI a)), some (.int (nI c)), some (.int (nI z4)), some (.int (nI (c5 - 1))), some (.int (nI (y6 % 2 ^ 1))), some (.int (nI (c7 + 1)))] [] w12 _
                  refine J_goto (pc := 77) (tgt := 36) dX8_reachNow_77 (by decide) ?_
                  exact J_sub (L' := [some (.ref 19), some (.int (nI s)), some (.int (nI a)), some (.int (nI c)), some (.int (nI z4)), some (.int (nI (c5 - 1))), some (.int (nI (y6 % 2 ^ 1))), some (.int (nI (c7 + 1)))]) ⟨rfl, ⟨rfl, ⟨rfl, ⟨rfl, ⟨rfl, ⟨rfl, ⟨rfl, ⟨rfl, trivial⟩⟩⟩⟩⟩⟩⟩⟩ (ihlp36_13 (y6 % 2 ^ 1) (c7 + 1) (by first | assumption | omega) (by first | assumption | omega) (by first | exact STt_1 (rd := (fun j => mv (a * 7 + j))) hv36_2 (by assumption) | exact STt_n (rd := (fun j => mv (a * 7 + j))) (by omega) (by assumption)) (by omega))
          exact J_sub (L' := [some (.ref 19), some (.int (nI s)), some (.int (nI a)), some (.int (nI c)), some (.int (nI z4)), some (.int (nI (c5 - 1))), some (.int (nI 1)), some (.int (nI 0))]) ⟨rfl, ⟨rfl, ⟨rfl, ⟨rfl, ⟨rfl, ⟨rfl, ⟨rfl, ⟨rfl, trivial⟩⟩⟩⟩⟩⟩⟩⟩ (lp36_13 _ 1 0 (by first | assumption | omega) (by first | assumption | omega) (by exact STt_0) (Nat.lt_succ_self _))
    exact J_sub (L' := [some (.ref 19), some (.int (nI s)), some (.int (nI a)), some (.int (nI c)), some (.int (nI 0)), some (.int (nI 0 + Int32.ofInt (-1))), none, none]) ⟨rfl, ⟨rfl, ⟨rfl, ⟨rfl, ⟨rfl, ⟨(congrArg (fun z => some (Value.int z)) (by decide : (-1 : Int32) = nI 0 + Int32.ofInt (-1))), trivial⟩⟩⟩⟩⟩⟩ (lp15_3 _ w1 rw1 0 0 ⟨h19_1, h20_1, h21_1, h22_1, hbb_1, hbl_1, hb3_1⟩ hF1 hgrw1 (by first | assumption | omega) (by intro h; first | (rw [Nat.add_sub_cancel]; assumption) | omega) (by first | exact KI_0 RBt_f RBt_0 (Nat.zero_le _) (by assumption) | exact KI_1 RBt_f RBt_0 (Nat.zero_le _) (by assumption)) (Nat.lt_succ_self _))
  · refine J_istore (pc := 13) dX8_reachNow_13 (by decide) rfl ?_
    show J X mX8_reachNow d (kc - 13) (ks - 2054) 15 [some (.ref 19), some (.int (nI s)), some (.int (nI a)), some (.int (nI c)), some (.int (nI 0)), some (.int (nI q2)), none, none] [] w1 _
    have lp15_32 : ∀ (fuel : Nat) (w33 : List jC) (rw_15 : Nat → Nat) (z4 : Nat) (c5 : Nat), (RM n mv rw_15 nx1 b1 bt1 kn1 en1 dn rf kk th w33) → (FR b b1 w w33) → (∀ i, rw_15 i < 7) → (c5 ≤ fc n) → (0 < c5 → bitL bt1 (c5 - 1) = true) → (RBt n bt1 (fun j => mv (a * 7 + j)) c z4 (KK (fc n) c5)) → (mu (fc n) c5 < fuel) → J X mX8_reachNow d (kc - 13) (ks - 2054) 15 [some (.ref 19), some (.int (nI s)), some (.int (nI a)), some (.int (nI c)), some (.int (nI z4)), some (.int (nI c5 + Int32.ofInt (-1))), none, none] [] w33 (pI (fun v => v = nI (sBv (RP n (Gg n (gS (mW n mv) s 6)) (fun j => mv (a * 7 + j)) c) n)) (fun w' => ∃ (rw' : Nat → Nat), ∃ (nx' : Nat → Nat), ∃ (b' : Nat), ∃ (bt' : List Int32), ∃ (kn' : Int32), ∃ (en' : Int32), RM n mv rw' nx' b' bt' kn' en' dn rf kk th w' ∧ FR b b' w w' ∧ (∀ i, rw' i < 7) ∧ (∀ i, nx' i < 7) ∧ kn' = nI s ∧ BX n mv s bt')) := by
      intro fuellp15_32
      induction fuellp15_32 with
      | zero => intros; omega
      | succ fuellp15_32 ihlp15_32 =>
        intro w33 rw_15 z4 c5 hR34 hF35 gr36 hv15_0 hv15_1 hv15_2 hf37
        obtain ⟨h19_38, h20_38, h21_38, h22_38, hb_38, hbl_38, hb3_38⟩ := hR34
        refine J_iload (pc := 15) dX8_reachNow_15 rfl ?_
        refine J_if_ltM (pc := 17) (tgt := 116) dX8_reachNow_17 (by decide) (by omega) (fun ht39 => ?_) (fun hf40 => ?_)
        · refine J_iload (pc := 116) dX8_reachNow_116 rfl ?_
          exact J_iret (pc := 118) dX8_reachNow_118 rfl ⟨(congrArg nI (by exact RBt_end (by omega) hn2 hBX (fun j hj => (hy1 a hy3).1 j hj) hy4 (by have h := hv15_2; rw [show c5 = 0 by omega, KK_0] at h; exact h))), ⟨rw_15, nx1, b1, bt1, kn1, en1, ⟨h19_38, h20_38, h21_38, h22_38, hb_38, hbl_38, hb3_38⟩, hF35, gr36, hgnx1, (by first | rfl | assumption), (by first | assumption | exact hBX)⟩⟩
        · rw [nI_m1 hf40]
          have hb15 := hv15_1 (by omega)
          have hprev : RBt n bt1 (fun j => mv (a * 7 + j)) c z4 (c5 - 1) := by
            have h := hv15_2
            rw [KK_p (by omega)] at h
            exact h
          have hcn := (hy1 a hy3).1 c hy4
          refine J_aload_n (pc := 20) dX8_reachNow_20 rfl rfl rfl ?_
          refine J_iload (pc := 21) dX8_reachNow_21 rfl ?_
          refine J_aload_n (pc := 23) dX8_reachNow_23 rfl rfl rfl ?_
          refine J_get (pc := 24) (k := 2) dX8_reachNow_24 kC9 (by decide) ff_X8_17 h19_38 rfl ?_
          refine J_callV0 (pc := 27) (M := mX8_reachNow) (as := [.int (nI (c5 - 1)), .ref 21]) dX8_reachNow_27 fw_X8_rowOf fl_X8_78 fm_X8_rowOf fe_X8_rowOf h19_38 (by decide) rfl rfl rfl (c_X8_rowOf hs (d := d - 1) (Nat.le_trans (by decide) hdm) (w := w33) (n := n) (mv := mv) (rw := rw_15) (nx := nx1) (b := b1) (bt := bt1) (kn := kn1) (en := en1) (dn := dn) (rf := rf) (kk := kk) (th := th) ⟨h19_38, h20_38, h21_38, h22_38, hb_38, hbl_38, hb3_38⟩ hn1 hn2 gm gr36 hgnx1 (c5 - 1) (by first | assumption | omega) (kc := 0) (ks := 0)) hdp (st := []) (Nat.le_of_ble_eq_true rfl) rfl (kr_V fun w41 hw41 => ?_) kx_V
          obtain ⟨rw41, hR41, hFc41, hgrw41, hp41_0⟩ := hw41
          obtain ⟨h19_41, h20_41, h21_41, h22_41, hbb_41, hbl_41, hb3_41⟩ := hR41
          have hF41 := hF35.tr hFc41
          have hrow := hp41_0
          refine J_iconst (pc := 30) (v := nI 1) dX8_reachNow_30 (by decide) ?_
          refine J_istore (pc := 31) dX8_reachNow_31 (by decide) rfl ?_
          show J X mX8_reachNow d (kc - 13) (ks - 2054) 33 [some (.ref 19), some (.int (nI s)), some (.int (nI a)), some (.int (nI c)), some (.int (nI z4)), some (.int (nI (c5 - 1))), some (.int (nI 1)), none] [] w41 _
          refine J_iconst (pc := 33) (v := nI 0) dX8_reachNow_33 (by decide) ?_
          refine J_istore (pc := 34) dX8_reachNow_34 (by decide) rfl ?_
          show J X mX8_reachNow d (kc - 13) (ks - 2054) 36 [some (.ref 19), some (.int (nI s)), some (.int (nI a)), some (.int (nI c)), some (.int (nI z4)), some (.int (nI (c5 - 1))), some (.int (nI 1)), some (.int (nI 0))] [] w41 _
          have lp36_42 : ∀ (fuel : Nat) (y6 : Nat) (c7 : Nat), (y6 < 2) → (c7 ≤ c) → (STt rw41 (fun j => mv (a * 7 + j)) c c7 y6) → (c - c7 < fuel) → J X mX8_reachNow d (kc - 13) (ks - 2054) 36 [some (.ref 19), some (.int (nI s)), some (.int (nI a)), some (.int (nI c)), some (.int (nI z4)), some (.int (nI (c5 - 1))), some (.int (nI y6)), some (.int (nI c7))] [] w41 (pI (fun v => v = nI (sBv (RP n (Gg n (gS (mW n mv) s 6)) (fun j => mv (a * 7 + j)) c) n)) (fun w' => ∃ (rw' : Nat → Nat), ∃ (nx' : Nat → Nat), ∃ (b' : Nat), ∃ (bt' : List Int32), ∃ (kn' : Int32), ∃ (en' : Int32), RM n mv rw' nx' b' bt' kn' en' dn rf kk th w' ∧ FR b b' w w' ∧ (∀ i, rw' i < 7) ∧ (∀ i, nx' i < 7) ∧ kn' = nI s ∧ BX n mv s bt')) := by
            intro fuellp36_42
            induction fuellp36_42 with
            | zero => intros; omega
            | succ fuellp36_42 ihlp36_42 =>
              intro y6 c7 hv36_0 hv36_1 hv36_2 hf43
              refine J_iload (pc := 36) dX8_reachNow_36 rfl ?_
              refine J_iload_n (pc := 38) dX8_reachNow_38 rfl rfl ?_
              refine J_icmp_geN (pc := 39) (tgt := 80) dX8_reachNow_39 (by decide) (by omega) (by omega) (fun ht44 => ?_) (fun hf45 => ?_)
              · have hgg : ∀ j, j < c → rw41 ((fun j => mv (a * 7 + j)) j) = rwF n (c5 - 1) ((fun j => mv (a * 7 + j)) j) := fun j hj => hrow _ ((hy1 a hy3).1 j (by omega))
                refine J_iload (pc := 80) dX8_reachNow_80 rfl ?_
                refine J_if_eqN (pc := 82) (tgt := 103) dX8_reachNow_82 (by decide) (by omega) (fun ht46 => ?_) (fun hf47 => ?_)
                · have hst : RBt n bt1 (fun j => mv (a * 7 + j)) c z4 (c5 - 1 + 1) := by first | exact RBt_s hprev hb15 hyes (hrow _ hcn) (by omega) | exact RBt_n hprev (STt_f (rd := (fun j => mv (a * 7 + j))) hv36_2 (by assumption) hgg)
                  refine J_aload_n (pc := 103) dX8_reachNow_103 rfl rfl rfl ?_
                  refine J_iload (pc := 104) dX8_reachNow_104 rfl ?_
                  refine J_iconst (pc := 106) (v := nI 1) dX8_reachNow_106 (by decide) ?_
                  refine J_iaddN (pc := 107) dX8_reachNow_107 ?_
                  refine J_callV0 (pc := 108) (M := mX8_reachNow) (as := [.int (nI ((c5 - 1) + 1))]) dX8_reachNow_108 fw_X8_from fl_X8_137 fm_X8_from fe_X8_from h19_41 (by decide) rfl rfl rfl (c_X8_from hs (d := d - 1) (Nat.le_trans (by decide) hdm) (w := w41) (n := n) (mv := mv) (rw := rw41) (nx := nx1) (b := b1) (bt := bt1) (kn := kn1) (en := en1) (dn := dn) (rf := rf) (kk := kk) (th := th) ⟨h19_41, h20_41, h21_41, h22_41, hbb_41, hbl_41, hb3_41⟩ hn1 hn2 gm hgrw41 hgnx1 ((c5 - 1) + 1) (by first | assumption | omega) (kc := 0) (ks := 0)) hdp (st := []) (Nat.le_of_ble_eq_true rfl) rfl (kr_P fun v48 hv48 => ?_) kx_I
                  rcases hv48 with ⟨rfl, hk48_0⟩ | ⟨q48, rfl, hk48_0, hk48_1, hk48_2, hk48_3⟩
                  · refine J_istore (pc := 111) dX8_reachNow_111 (by decide) rfl ?_
                    show J X mX8_reachNow d (kc - 13) (ks - 2054) 113 [some (.ref 19), some (.int (nI s)), some (.int (nI a)), some (.int (nI c)), some (.int (nI z4)), some (.int (-1)), some (.int (nI y6)), some (.int (nI c7))] [] w41 _
                    refine J_goto (pc := 113) (tgt := 15) dX8_reachNow_113 (by decide) ?_
                    exact J_sub (L' := [some (.ref 19), some (.int (nI s)), some (.int (nI a)), some (.int (nI c)), some (.int (nI z4)), some (.int (nI 0 + Int32.ofInt (-1))), none, none]) ⟨rfl, ⟨rfl, ⟨rfl, ⟨rfl, ⟨rfl, ⟨(congrArg (fun z => some (Value.int z)) (by decide : (-1 : Int32) = nI 0 + Int32.ofInt (-1))), trivial⟩⟩⟩⟩⟩⟩ (ihlp15_32 w41 rw41 z4 0 ⟨h19_41, h20_41, h21_41, h22_41, hbb_41, hbl_41, hb3_41⟩ hF41 hgrw41 (by first | assumption | omega) (by intro h; first | (rw [Nat.add_sub_cancel]; assumption) | omega) (by first | exact KI_0 RBt_f hst (by omega) (by assumption) | exact KI_1 RBt_f hst (by omega) (by assumption)) (by exact mu_dec (by assumption) (by omega) (by omega) (by omega)))
                  · refine J_istore (pc := 111) dX8_reachNow_111 (by decide) rfl ?_
                    show J X mX8_reachNow d (kc - 13) (ks - 2054) 113 [some (.ref 19), some (.int (nI s)), some (.int (nI a)), some (.int (nI c)), some (.int (nI z4)), some (.int (nI q48)), some (.int (nI y6)), some (.int (nI c7))] [] w41 _
                    refine J_goto (pc := 113) (tgt := 15) dX8_reachNow_113 (by decide) ?_
                    exact J_sub (L' := [some (.ref 19), some (.int (nI s)), some (.int (nI a)), some (.int (nI c)), some (.int (nI z4)), some (.int (nI (q48 + 1) + Int32.ofInt (-1))), none, none]) ⟨rfl, ⟨rfl, ⟨rfl, ⟨rfl, ⟨rfl, ⟨(congrArg (fun z => some (Value.int z)) (nI_n1 q48)), trivial⟩⟩⟩⟩⟩⟩ (ihlp15_32 w41 rw41 z4 (q48 + 1) ⟨h19_41, h20_41, h21_41, h22_41, hbb_41, hbl_41, hb3_41⟩ hF41 hgrw41 (by first | assumption | omega) (by intro h; first | (rw [Nat.add_sub_cancel]; assumption) | omega) (by first | exact KI_0 RBt_f hst (by omega) (by assumption) | exact KI_1 RBt_f hst (by omega) (by assumption)) (by exact mu_dec (by assumption) (by omega) (by omega) (by omega)))
                · have hyes := STt_y (rd := (fun j => mv (a * 7 + j))) (g := rwF n (c5 - 1)) hv36_2 (by omega) (by assumption) hgg
                  have hrv : rw41 (mv (a * 7 + c)) < n := by rw [hrow _ hcn]; exact (rwF_Pn (by omega)).1 _ hcn
                  have hz4 := hprev.1
                  have hp2 : 2 ^ rw41 (mv (a * 7 + c)) < 2 ^ 31 := Nat.pow_lt_pow_right (by decide) (by omega)
                  refine J_iload (pc := 85) dX8_reachNow_85 rfl ?_
                  refine J_iconst (pc := 87) (v := nI 1) dX8_reachNow_87 (by decide) ?_
                  refine J_aload_n (pc := 88) dX8_reachNow_88 rfl rfl rfl ?_
                  refine J_get (pc := 89) (k := 2) dX8_reachNow_89 kC9 (by decide) ff_X8_17 h19_41 rfl ?_
                  refine J_aload_n (pc := 92) dX8_reachNow_92 rfl rfl rfl ?_
                  refine J_iload_n (pc := 93) dX8_reachNow_93 rfl rfl ?_
                  refine J_iload_n (pc := 94) dX8_reachNow_94 rfl rfl ?_
                  refine J_callV0 (pc := 95) (M := mX8_reachNow) (as := [.int (nI a), .int (nI c)]) dX8_reachNow_95 fw_X8_at fl_X8_82 fm_X8_at fe_X8_at h19_41 (by decide) rfl rfl rfl (c_X8_at hs (d := d - 1) (Nat.le_trans (by decide) hdm) (w := w41) (n := n) (mv := mv) (rw := rw41) (nx := nx1) (b := b1) (bt := bt1) (kn := kn1) (en := en1) (dn := dn) (rf := rf) (kk := kk) (th := th) ⟨h19_41, h20_41, h21_41, h22_41, hbb_41, hbl_41, hb3_41⟩ hn1 hn2 gm hgrw41 hgnx1 a c (by first | assumption | omega) (by first | assumption | omega) (kc := 0) (ks := 0)) hdp (st := [.ref 21, .int (nI 1), .int (nI z4)]) (Nat.le_of_ble_eq_true rfl) rfl (kr_P fun v49 hv49 => ?_) kx_I
                  subst hv49
                  have hq50 := gm (a * 7 + c)
                  refine J_ialdF (pc := 98) dX8_reachNow_98 h21_41 (by omega) (by decide) ?_
                  have hq51 := hgrw41 (mv (a * 7 + c))
                  refine J_shlOne (pc := 99) dX8_reachNow_99 (by omega) ?_
                  refine J_iorN (pc := 100) dX8_reachNow_100 (by omega) (by omega) ?_
                  refine J_istore (pc := 101) dX8_reachNow_101 (by decide) rfl ?_
                  show J X mX8_reachNow d (kc - 13) (ks - 2054) 103 [some (.ref 19), some (.int (nI s)), some (.int (nI a)), some (.int (nI c)), some (.int (nI (z4 ||| (2 ^ (rw41 (mv (a * 7 + c))))))), some (.int (nI (c5 - 1))), some (.int (nI y6)), some (.int (nI c7))] [] w41 _
                  have hst : RBt n bt1 (fun j => mv (a * 7 + j)) c (z4 ||| (2 ^ (rw41 (mv (a * 7 + c))))) (c5 - 1 + 1) := by first | exact RBt_s hprev hb15 hyes (hrow _ hcn) (by omega) | exact RBt_n hprev (STt_f (rd := (fun j => mv (a * 7 + j))) hv36_2 (by assumption) hgg)
                  refine J_aload_n (pc := 103) dX8_reachNow_103 rfl rfl rfl ?_
                  refine J_iload (pc := 104) dX8_reachNow_104 rfl ?_
                  refine J_iconst (pc := 106) (v := nI 1) dX8_reachNow_106 (by decide) ?_
                  refine J_iaddN (pc := 107) dX8_reachNow_107 ?_
                  refine J_callV0 (pc := 108) (M := mX8_reachNow) (as := [.int (nI ((c5 - 1) + 1))]) dX8_reachNow_108 fw_X8_from fl_X8_137 fm_X8_from fe_X8_from h19_41 (by decide) rfl rfl rfl (c_X8_from hs (d := d - 1) (Nat.le_trans (by decide) hdm) (w := w41) (n := n) (mv := mv) (rw := rw41) (nx := nx1) (b := b1) (bt := bt1) (kn := kn1) (en := en1) (dn := dn) (rf := rf) (kk := kk) (th := th) ⟨h19_41, h20_41, h21_41, h22_41, hbb_41, hbl_41, hb3_41⟩ hn1 hn2 gm hgrw41 hgnx1 ((c5 - 1) + 1) (by first | assumption | omega) (kc := 0) (ks := 0)) hdp (st := []) (Nat.le_of_ble_eq_true rfl) rfl (kr_P fun v52 hv52 => ?_) kx_I
                  rcases hv52 with ⟨rfl, hk52_0⟩ | ⟨q52, rfl, hk52_0, hk52_1, hk52_2, hk52_3⟩
                  · refine J_istore (pc := 111) dX8_reachNow_111 (by decide) rfl ?_
                    show J X mX8_reachNow d (kc - 13) (ks - 2054) 113 [some (.ref 19), some (.int (nI s)), some (.int (nI a)), some (.int (nI c)), some (.int (nI (z4 ||| (2 ^ (rw41 (mv (a * 7 + c))))))), some (.int (-1)), some (.int (nI y6)), some (.int (nI c7))] [] w41 _
                    refine J_goto (pc := 113) (tgt := 15) dX8_reachNow_113 (by decide) ?_
                    exact J_sub (L' := [some (.ref 19), some (.int (nI s)), some (.int (nI a)), some (.int (nI c)), some (.int (nI (z4 ||| (2 ^ (rw41 (mv (a * 7 + c))))))), some (.int (nI 0 + Int32.ofInt (-1))), none, none]) ⟨rfl, ⟨rfl, ⟨rfl, ⟨rfl, ⟨rfl, ⟨(congrArg (fun z => some (Value.int z)) (by decide : (-1 : Int32) = nI 0 + Int32.ofInt (-1))), trivial⟩⟩⟩⟩⟩⟩ (ihlp15_32 w41 rw41 (z4 ||| (2 ^ (rw41 (mv (a * 7 + c))))) 0 ⟨h19_41, h20_41, h21_41, h22_41, hbb_41, hbl_41, hb3_41⟩ hF41 hgrw41 (by first | assumption | omega) (by intro h; first | (rw [Nat.add_sub_cancel]; assumption) | omega) (by first | exact KI_0 RBt_f hst (by omega) (by assumption) | exact KI_1 RBt_f hst (by omega) (by assumption)) (by exact mu_dec (by assumption) (by omega) (by omega) (by omega)))
                  · refine J_istore (pc := 111) dX8_reachNow_111 (by decide) rfl ?_
                    show J X mX8_reachNow d (kc - 13) (ks - 2054) 113 [some (.ref 19), some (.int (nI s)), some (.int (nI a)), some (.int (nI c)), some (.int (nI (z4 ||| (2 ^ (rw41 (mv (a * 7 + c))))))), some (.int (nI q52)), some (.int (nI y6)), some (.int (nI c7))] [] w41 _
                    refine J_goto (pc := 113) (tgt := 15) dX8_reachNow_113 (by decide) ?_
                    exact J_sub (L' := [some (.ref 19), some (.int (nI s)), some (.int (nI a)), some (.int (nI c)), some (.int (nI (z4 ||| (2 ^ (rw41 (mv (a * 7 + c))))))), some (.int (nI (q52 + 1) + Int32.ofInt (-1))), none, none]) ⟨rfl, ⟨rfl, ⟨rfl, ⟨rfl, ⟨rfl, ⟨(congrArg (fun z => some (Value.int z)) (nI_n1 q52)), trivial⟩⟩⟩⟩⟩⟩ (ihlp15_32 w41 rw41 (z4 ||| (2 ^ (rw41 (mv (a * 7 + c))))) (q52 + 1) ⟨h19_41, h20_41, h21_41, h22_41, hbb_41, hbl_41, hb3_41⟩ hF41 hgrw41 (by first | assumption | omega) (by intro h; first | (rw [Nat.add_sub_cancel]; assumption) | omega) (by first | exact KI_0 RBt_f hst (by omega) (by assumption) | exact KI_1 RBt_f hst (by omega) (by assumption)) (by exact mu_dec (by assumption) (by omega) (by omega) (by omega)))
              · refine J_iload (pc := 42) dX8_reachNow_42 rfl ?_
                refine J_aload_n (pc := 44) dX8_reachNow_44 rfl rfl rfl ?_
                refine J_get (pc := 45) (k := 2) dX8_reachNow_45 kC9 (by decide) ff_X8_17 h19_41 rfl ?_
                refine J_aload_n (pc := 48) dX8_reachNow_48 rfl rfl rfl ?_
                refine J_iload_n (pc := 49) dX8_reachNow_49 rfl rfl ?_
                refine J_iload (pc := 50) dX8_reachNow_50 rfl ?_
                refine J_callV0 (pc := 52) (M := mX8_reachNow) (as := [.int (nI a), .int (nI c7)]) dX8_reachNow_52 fw_X8_at fl_X8_82 fm_X8_at fe_X8_at h19_41 (by decide) rfl rfl rfl (c_X8_at hs (d := d - 1) (Nat.le_trans (by decide) hdm) (w := w41) (n := n) (mv := mv) (rw := rw41) (nx := nx1) (b := b1) (bt := bt1) (kn := kn1) (en := en1) (dn := dn) (rf := rf) (kk := kk) (th := th) ⟨h19_41, h20_41, h21_41, h22_41, hbb_41, hbl_41, hb3_41⟩ hn1 hn2 gm hgrw41 hgnx1 a c7 (by first | assumption | omega) (by first | assumption | omega) (kc := 0) (ks := 0)) hdp (st := [.ref 21, .int (nI y6)]) (Nat.le_of_ble_eq_true rfl) rfl (kr_P fun v53 hv53 => ?_) kx_I
                subst hv53
                have hq54 := gm (a * 7 + c7)
                refine J_ialdF (pc := 55) dX8_reachNow_55 h21_41 (by omega) (by decide) ?_
                have hq55 := hgrw41 (mv (a * 7 + c7))
                refine J_aload_n (pc := 56) dX8_reachNow_56 rfl rfl rfl ?_
                refine J_iload_n (pc := 57) dX8_reachNow_57 rfl rfl ?_
                refine J_iload (pc := 58) dX8_reachNow_58 rfl ?_
                refine J_callV0 (pc := 60) (M := mX8_reachNow) (as := [.int (nI a), .int (nI c7)]) dX8_reachNow_60 fw_X8_at fl_X8_82 fm_X8_at fe_X8_at h19_41 (by decide) rfl rfl rfl (c_X8_at hs (d := d - 1) (Nat.le_trans (by decide) hdm) (w := w41) (n := n) (mv := mv) (rw := rw41) (nx := nx1) (b := b1) (bt := bt1) (kn := kn1) (en := en1) (dn := dn) (rf := rf) (kk := kk) (th := th) ⟨h19_41, h20_41, h21_41, h22_41, hbb_41, hbl_41, hb3_41⟩ hn1 hn2 gm hgrw41 hgnx1 a c7 (by first | assumption | omega) (by first | assumption | omega) (kc := 0) (ks := 0)) hdp (st := [.int (nI (rw41 (mv (a * 7 + c7)))), .int (nI y6)]) (Nat.le_of_ble_eq_true rfl) rfl (kr_P fun v56 hv56 => ?_) kx_I
                subst hv56
                have hq57 := gm (a * 7 + c7)
                refine J_icmp_neN (pc := 63) (tgt := 70) dX8_reachNow_63 (by decide) (by omega) (by omega) (fun ht58 => ?_) (fun hf59 => ?_)
                · refine J_iconst (pc := 70) (v := nI 0) dX8_reachNow_70 (by decide) ?_
                  refine J_iand1 (pc := 71) dX8_reachNow_71 (by omega) (by omega) ?_
                  refine J_istore (pc := 72) dX8_reachNow_72 (by decide) rfl ?_
                  show J X mX8_reachNow d (kc - 13) (ks - 2054) 74 [some (.ref 19), some (.int (nI s)), some (.int (nI a)), some (.int (nI c)), some (.int (nI z4)), some (.int (nI (c5 - 1))), some (.int (nI (y6 * 0))), some (.int (nI c7))] [] w41 _
                  refine J_iincN (pc := 74) (b := 1) dX8_reachNow_74 rfl (by decide) (by decide) rfl ?_
                  show J X mX8_reachNow d (kc - 13) (ks - 2054) 77 [some (.ref 19), some (.int (nI s)), some (.int (nI a)), some (.int (nI c)), some (.int (nI z4)), some (.int (nI (c5 - 1))), some (.int (nI (y6 * 0))), some (.int (nI (c7 + 1)))] [] w41 _
                  refine J_goto (pc := 77) (tgt := 36) dX8_reachNow_77 (by decide) ?_
                  exact J_sub (L' := [some (.ref 19), some (.int (nI s)), some (.int (nI a)), some (.int (nI c)), some (.int (nI z4)), some (.int (nI (c5 - 1))), some (.int (nI (y6 * 0))), some (.int (nI (c7 + 1)))]) ⟨rfl, ⟨rfl, ⟨rfl, ⟨rfl, ⟨rfl, ⟨rfl, ⟨rfl, ⟨rfl, trivial⟩⟩⟩⟩⟩⟩⟩⟩ (ihlp36_42 (y6 * 0) (c7 + 1) (by first | assumption | omega) (by first | assumption | omega) (by first | exact STt_1 (rd := (fun j => mv (a * 7 + j))) hv36_2 (by assumption) | exact STt_n (rd := (fun j => mv (a * 7 + j))) (by omega) (by assumption)) (by omega))
                · refine J_iconst (pc := 66) (v := nI 1) dX8_reachNow_66 (by decide) ?_
                  refine J_goto (pc := 67) (tgt := 71) dX8_reachNow_67 (by decide) ?_
                  have hm60 := Nat.mod_lt y6 (show 0 < 2 ^ 1 by decide)
                  refine J_iandN (pc := 71) 1 dX8_reachNow_71 (by omega) (by decide) ?_
                  refine J_istore (pc := 72) dX8_reachNow_72 (by decide) rfl ?_
                  show J X mX8_reachNow d (kc - 13) (ks - 2054) 74 [some (.ref 19), some (.int (nI s)), some (.int (nI a)), some (.int (nI c)), some (.int (nI z4)), some (.int (nI (c5 - 1))), some (.int (nI (y6 % 2 ^ 1))), some (.int (nI c7))] [] w41 _
                  refine J_iincN (pc := 74) (b := 1) dX8_reachNow_74 rfl (by decide) (by decide) rfl ?_
                  show J X mX8_reachNow d (kc - 13) (ks - 2054) 77 [some (.ref 19), some (.int (nI s)), some (.int (nI a)), some (.int (nI c)), some (.int (nI z4)), some (.int (nI (c5 - 1))), some (.int (nI (y6 % 2 ^ 1))), some (.int (nI (c7 + 1)))] [] w41 _
                  refine J_goto (pc := 77) (tgt := 36) dX8_reachNow_77 (by decide) ?_
                  exact J_sub (L' := [some (.ref 19), some (.int (nI s)), some (.int (nI a)), some (.int (nI c)), some (.int (nI z4)), some (.int (nI (c5 - 1))), some (.int (nI (y6 % 2 ^ 1))), some (.int (nI (c7 + 1)))]) ⟨rfl, ⟨rfl, ⟨rfl, ⟨rfl, ⟨rfl, ⟨rfl, ⟨rfl, ⟨rfl, trivial⟩⟩⟩⟩⟩⟩⟩⟩ (ihlp36_42 (y6 % 2 ^ 1) (c7 + 1) (by first | assumption | omega) (by first | assumption | omega) (by first | exact STt_1 (rd := (fun j => mv (a * 7 + j))) hv36_2 (by assumption) | exact STt_n (rd := (fun j => mv (a * 7 + j))) (by omega) (by assumption)) (by omega))
          exact J_sub (L' := [some (.ref 19), some (.int (nI s)), some (.int (nI a)), some (.int (nI c)), some (.int (nI z4)), some (.int (nI (c5 - 1))), some (.int (nI 1)), some (.int (nI 0))]) ⟨rfl, ⟨rfl, ⟨rfl, ⟨rfl, ⟨rfl, ⟨rfl, ⟨rfl, ⟨rfl, trivial⟩⟩⟩⟩⟩⟩⟩⟩ (lp36_42 _ 1 0 (by first | assumption | omega) (by first | assumption | omega) (by exact STt_0) (Nat.lt_succ_self _))
    exact J_sub (L' := [some (.ref 19), some (.int (nI s)), some (.int (nI a)), some (.int (nI c)), some (.int (nI 0)), some (.int (nI (q2 + 1) + Int32.ofInt (-1))), none, none]) ⟨rfl, ⟨rfl, ⟨rfl, ⟨rfl, ⟨rfl, ⟨(congrArg (fun z => some (Value.int z)) (nI_n1 q2)), trivial⟩⟩⟩⟩⟩⟩ (lp15_32 _ w1 rw1 0 (q2 + 1) ⟨h19_1, h20_1, h21_1, h22_1, hbb_1, hbl_1, hb3_1⟩ hF1 hgrw1 (by first | assumption | omega) (by intro h; first | (rw [Nat.add_sub_cancel]; assumption) | omega) (by first | exact KI_0 RBt_f RBt_0 (Nat.zero_le _) (by assumption) | exact KI_1 RBt_f RBt_0 (Nat.zero_le _) (by assumption)) (Nat.lt_succ_self _))
set_option maxRecDepth 100000 in
set_option maxHeartbeats 4000000 in
theorem c_X8_reach_ate {X : jX} (hs : X.1.stackTraces = false) {d : Nat} (hd : 5 ≤ d) {n : Nat} {mv rw nx : Nat → Nat} {b : Nat} {bt : List Int32} {kn en dn rf kk th : Int32} {w : List jC} (hR : RM n mv rw nx b bt kn en dn rf kk th w) (hn1 : 2 ≤ n) (hn2 : n ≤ 7) (gm : ∀ i, mv i < 7) (gr : ∀ i, rw i < 7) (gx : ∀ i, nx i < 7) (s : Int32) (a : Int32) (c : Int32) (hy0 : PM n mv) (hy1 : KX n mv kn bt) {kc ks : Nat} (hkc : 13 ≤ kc) (hks : 2054 ≤ ks) : jMet X mX8_reach d kc ks [.ref 19, .int s, .int a, .int c] w (pJ (fun v w' => ∃ (rw' : Nat → Nat), ∃ (nx' : Nat → Nat), ∃ (b' : Nat), ∃ (bt' : List Int32), ∃ (kn' : Int32), ∃ (en' : Int32), ∃ (th' : Int32), RM n mv rw' nx' b' bt' kn' en' dn rf kk th' w' ∧ FR b b' w w' ∧ (∀ i, rw' i < 7) ∧ (∀ i, nx' i < 7) ∧ KX n mv kn' bt' ∧ ((th' = nI 1 ∧ ¬ (isN a 6 ∧ isN c n)) ∨ (th' = nI 2 ∧ (isN a 6 ∧ isN c n) ∧ ¬ (isN s 64)) ∨ (th' = nI 0 ∧ ∃ a1 b1 c1 : Nat, s = nI a1 ∧ a = nI b1 ∧ c = nI c1 ∧ a1 < 64 ∧ b1 < 6 ∧ c1 < n ∧ v = nI (sBv (RP n (Gg n (gS (mW n mv) a1 6)) (fun j => mv (b1 * 7 + j)) c1) n))))) := by
  refine jMet_of hs (by decide +kernel) (Nat.le_of_ble_eq_true rfl) (L := [some (.ref 19), some (.int s), some (.int a), some (.int c)]) rfl ?_
  have hdm : 4 ≤ d - 1 := by omega
  have hdp : d - 1 + 1 ≤ d := by omega
  have hfc := fc_7 hn2
  have hfp := fc_pos n
  obtain ⟨h19, h20, h21, h22, hbb, hbl, hb3⟩ := hR
  have hF : FR b b w w := FR.rf
  refine J_aload_n (pc := 0) dX8_reach_0 rfl rfl rfl ?_
  refine J_iload_n (pc := 1) dX8_reach_1 rfl rfl ?_
  refine J_callS0 (pc := 2) (M := mX8_reach) (as := [.int a]) dX8_reach_2 fw_X8_isCell fl_X8_108 fs_X8_isCell rfl (c_X8_isCell hs (d := d - 1) (Nat.le_trans (by decide) hdm) (w := w) a (kc := 0) (ks := 0)) hdp (st := [.ref 19]) (Nat.le_of_ble_eq_true rfl) rfl (kr_P fun v1 hv1 => ?_) kx_I
  rcases hv1 with ⟨rfl, hk1_0⟩ | ⟨q1, rfl, hk1_0, rfl⟩
  · refine J_if_eqN (pc := 5) (tgt := 16) dX8_reach_5 (by decide) (by decide) (fun _ => ?_) (fun h => absurd h (by decide))
    refine J_iconst (pc := 16) (v := nI 1) dX8_reach_16 (by decide) ?_
    refine J_goto (pc := 17) (tgt := 21) dX8_reach_17 (by decide) ?_
    refine J_iload_n (pc := 21) dX8_reach_21 rfl rfl ?_
    refine J_callS0 (pc := 22) (M := mX8_reach) (as := [.int s]) dX8_reach_22 fw_X8_isSet fl_X8_134 fs_X8_isSet rfl (c_X8_isSet hs (d := d - 1) (Nat.le_trans (by decide) hdm) (w := w) s (kc := 0) (ks := 0)) hdp (st := [.int (nI 1), .ref 19]) (Nat.le_of_ble_eq_true rfl) rfl (kr_P fun v2 hv2 => ?_) kx_I
    rcases hv2 with ⟨rfl, hk2_0⟩ | ⟨q2, rfl, hk2_0, rfl⟩
    · refine J_if_neN (pc := 25) (tgt := 32) dX8_reach_25 (by decide) (by decide) (fun h => absurd h (by decide)) (fun _ => ?_)
      refine J_iconst (pc := 28) (v := nI 1) dX8_reach_28 (by decide) ?_
      refine J_goto (pc := 29) (tgt := 33) dX8_reach_29 (by decide) ?_
      refine J_callV0 (pc := 33) (M := mX8_reach) (as := [.int (nI 1), .int (nI 1)]) dX8_reach_33 fw_X8_isThrown fl_X8_35 fm_X8_isThrown fe_X8_isThrown h19 (by decide) rfl rfl rfl (c_X8_isThrown hs (d := d - 1) (Nat.le_trans (by decide) hdm) (w := w) (n := n) (mv := mv) (rw := rw) (nx := nx) (b := b) (bt := bt) (kn := kn) (en := en) (dn := dn) (rf := rf) (kk := kk) (th := th) ⟨h19, h20, h21, h22, hbb, hbl, hb3⟩ hn1 hn2 gm gr gx 1 1 (by first | assumption | omega) (by first | assumption | omega) (kc := 0) (ks := 0)) hdp (st := []) (Nat.le_of_ble_eq_true rfl) rfl (kr_I fun v3 w3 hv3 hw3 => ?_) kx_I
      obtain ⟨hR3, hFc3⟩ := hw3
      obtain ⟨h19_3, h20_3, h21_3, h22_3, hbb_3, hbl_3, hb3_3⟩ := hR3
      have hF3 := hF.tr hFc3
      subst hv3
      show J X mX8_reach d kc ks 36 [some (.ref 19), some (.int s), some (.int a), some (.int c)] [.int (nI 1)] w3 _
      refine J_if_eqN (pc := 36) (tgt := 43) dX8_reach_36 (by decide) (by decide) (fun h => absurd h (by decide)) (fun _ => ?_)
      refine J_iconst (pc := 39) (v := nI 0) dX8_reach_39 (by decide) ?_
      refine J_goto (pc := 40) (tgt := 50) dX8_reach_40 (by decide) ?_
      exact J_iret (pc := 50) dX8_reach_50 rfl (⟨rw, nx, b, bt, kn, en, nI (tW 1 1), ⟨h19_3, h20_3, h21_3, h22_3, hbb_3, hbl_3, hb3_3⟩, hF3, gr, gx, (by first | assumption | exact KX_i (by assumption) (by assumption) (by first | rfl | assumption)), (by first | exact Or.inl ⟨rfl, fun g => (by first | exact ne_isN (by assumption) g | exact ne_isN (by assumption) g.1 | exact ne_isN (by assumption) g.2)⟩ | exact Or.inr (Or.inl ⟨rfl, ⟨isN_of (by first | assumption | omega), isN_of (by first | assumption | omega)⟩, fun g => (by first | exact ne_isN (by assumption) g | exact ne_isN (by assumption) g.1 | exact ne_isN (by assumption) g.2)⟩) | exact Or.inr (Or.inr ⟨rfl, ⟨_, _, _, rfl, rfl, rfl, (by omega), (by omega), (by omega), (by rfl)⟩⟩))⟩)
    · refine J_if_neN (pc := 25) (tgt := 32) dX8_reach_25 (by decide) (by decide) (fun _ => ?_) (fun h => absurd h (by decide))
      refine J_iconst (pc := 32) (v := nI 0) dX8_reach_32 (by decide) ?_
      refine J_callV0 (pc := 33) (M := mX8_reach) (as := [.int (nI 1), .int (nI 0)]) dX8_reach_33 fw_X8_isThrown fl_X8_35 fm_X8_isThrown fe_X8_isThrown h19 (by decide) rfl rfl rfl (c_X8_isThrown hs (d := d - 1) (Nat.le_trans (by decide) hdm) (w := w) (n := n) (mv := mv) (rw := rw) (nx := nx) (b := b) (bt := bt) (kn := kn) (en := en) (dn := dn) (rf := rf) (kk := kk) (th := th) ⟨h19, h20, h21, h22, hbb, hbl, hb3⟩ hn1 hn2 gm gr gx 1 0 (by first | assumption | omega) (by first | assumption | omega) (kc := 0) (ks := 0)) hdp (st := []) (Nat.le_of_ble_eq_true rfl) rfl (kr_I fun v4 w4 hv4 hw4 => ?_) kx_I
      obtain ⟨hR4, hFc4⟩ := hw4
      obtain ⟨h19_4, h20_4, h21_4, h22_4, hbb_4, hbl_4, hb3_4⟩ := hR4
      have hF4 := hF.tr hFc4
      subst hv4
      show J X mX8_reach d kc ks 36 [some (.ref 19), some (.int (nI q2)), some (.int a), some (.int c)] [.int (nI 1)] w4 _
      refine J_if_eqN (pc := 36) (tgt := 43) dX8_reach_36 (by decide) (by decide) (fun h => absurd h (by decide)) (fun _ => ?_)
      refine J_iconst (pc := 39) (v := nI 0) dX8_reach_39 (by decide) ?_
      refine J_goto (pc := 40) (tgt := 50) dX8_reach_40 (by decide) ?_
      exact J_iret (pc := 50) dX8_reach_50 rfl (⟨rw, nx, b, bt, kn, en, nI (tW 1 0), ⟨h19_4, h20_4, h21_4, h22_4, hbb_4, hbl_4, hb3_4⟩, hF4, gr, gx, (by first | assumption | exact KX_i (by assumption) (by assumption) (by first | rfl | assumption)), (by first | exact Or.inl ⟨rfl, fun g => (by first | exact ne_isN (by assumption) g | exact ne_isN (by assumption) g.1 | exact ne_isN (by assumption) g.2)⟩ | exact Or.inr (Or.inl ⟨rfl, ⟨isN_of (by first | assumption | omega), isN_of (by first | assumption | omega)⟩, fun g => (by first | exact ne_isN (by assumption) g | exact ne_isN (by assumption) g.1 | exact ne_isN (by assumption) g.2)⟩) | exact Or.inr (Or.inr ⟨rfl, ⟨_, _, _, rfl, rfl, rfl, (by omega), (by omega), (by omega), (by rfl)⟩⟩))⟩)
  · refine J_if_eqN (pc := 5) (tgt := 16) dX8_reach_5 (by decide) (by decide) (fun h => absurd h (by decide)) (fun _ => ?_)
    refine J_aload_n (pc := 8) dX8_reach_8 rfl rfl rfl ?_
    refine J_iload_n (pc := 9) dX8_reach_9 rfl rfl ?_
    refine J_callV0 (pc := 10) (M := mX8_reach) (as := [.int c]) dX8_reach_10 fw_X8_isPoint fl_X8_118 fm_X8_isPoint fe_X8_isPoint h19 (by decide) rfl rfl rfl (c_X8_isPoint hs (d := d - 1) (Nat.le_trans (by decide) hdm) (w := w) (n := n) (mv := mv) (rw := rw) (nx := nx) (b := b) (bt := bt) (kn := kn) (en := en) (dn := dn) (rf := rf) (kk := kk) (th := th) ⟨h19, h20, h21, h22, hbb, hbl, hb3⟩ hn1 hn2 gm gr gx c (kc := 0) (ks := 0)) hdp (st := [.ref 19]) (Nat.le_of_ble_eq_true rfl) rfl (kr_P fun v5 hv5 => ?_) kx_I
    rcases hv5 with ⟨rfl, hk5_0⟩ | ⟨q5, rfl, hk5_0, rfl⟩
    · refine J_if_neN (pc := 13) (tgt := 20) dX8_reach_13 (by decide) (by decide) (fun h => absurd h (by decide)) (fun _ => ?_)
      refine J_iconst (pc := 16) (v := nI 1) dX8_reach_16 (by decide) ?_
      refine J_goto (pc := 17) (tgt := 21) dX8_reach_17 (by decide) ?_
      refine J_iload_n (pc := 21) dX8_reach_21 rfl rfl ?_
      refine J_callS0 (pc := 22) (M := mX8_reach) (as := [.int s]) dX8_reach_22 fw_X8_isSet fl_X8_134 fs_X8_isSet rfl (c_X8_isSet hs (d := d - 1) (Nat.le_trans (by decide) hdm) (w := w) s (kc := 0) (ks := 0)) hdp (st := [.int (nI 1), .ref 19]) (Nat.le_of_ble_eq_true rfl) rfl (kr_P fun v6 hv6 => ?_) kx_I
      rcases hv6 with ⟨rfl, hk6_0⟩ | ⟨q6, rfl, hk6_0, rfl⟩
      · refine J_if_neN (pc := 25) (tgt := 32) dX8_reach_25 (by decide) (by decide) (fun h => absurd h (by decide)) (fun _ => ?_)
        refine J_iconst (pc := 28) (v := nI 1) dX8_reach_28 (by decide) ?_
        refine J_goto (pc := 29) (tgt := 33) dX8_reach_29 (by decide) ?_
        refine J_callV0 (pc := 33) (M := mX8_reach) (as := [.int (nI 1), .int (nI 1)]) dX8_reach_33 fw_X8_isThrown fl_X8_35 fm_X8_isThrown fe_X8_isThrown h19 (by decide) rfl rfl rfl (c_X8_isThrown hs (d := d - 1) (Nat.le_trans (by decide) hdm) (w := w) (n := n) (mv := mv) (rw := rw) (nx := nx) (b := b) (bt := bt) (kn := kn) (en := en) (dn := dn) (rf := rf) (kk := kk) (th := th) ⟨h19, h20, h21, h22, hbb, hbl, hb3⟩ hn1 hn2 gm gr gx 1 1 (by first | assumption | omega) (by first | assumption | omega) (kc := 0) (ks := 0)) hdp (st := []) (Nat.le_of_ble_eq_true rfl) rfl (kr_I fun v7 w7 hv7 hw7 => ?_) kx_I
        obtain ⟨hR7, hFc7⟩ := hw7
        obtain ⟨h19_7, h20_7, h21_7, h22_7, hbb_7, hbl_7, hb3_7⟩ := hR7
        have hF7 := hF.tr hFc7
        subst hv7
        show J X mX8_reach d kc ks 36 [some (.ref 19), some (.int s), some (.int (nI q1)), some (.int c)] [.int (nI 1)] w7 _
        refine J_if_eqN (pc := 36) (tgt := 43) dX8_reach_36 (by decide) (by decide) (fun h => absurd h (by decide)) (fun _ => ?_)
        refine J_iconst (pc := 39) (v := nI 0) dX8_reach_39 (by decide) ?_
        refine J_goto (pc := 40) (tgt := 50) dX8_reach_40 (by decide) ?_
        exact J_iret (pc := 50) dX8_reach_50 rfl (⟨rw, nx, b, bt, kn, en, nI (tW 1 1), ⟨h19_7, h20_7, h21_7, h22_7, hbb_7, hbl_7, hb3_7⟩, hF7, gr, gx, (by first | assumption | exact KX_i (by assumption) (by assumption) (by first | rfl | assumption)), (by first | exact Or.inl ⟨rfl, fun g => (by first | exact ne_isN (by assumption) g | exact ne_isN (by assumption) g.1 | exact ne_isN (by assumption) g.2)⟩ | exact Or.inr (Or.inl ⟨rfl, ⟨isN_of (by first | assumption | omega), isN_of (by first | assumption | omega)⟩, fun g => (by first | exact ne_isN (by assumption) g | exact ne_isN (by assumption) g.1 | exact ne_isN (by assumption) g.2)⟩) | exact Or.inr (Or.inr ⟨rfl, ⟨_, _, _, rfl, rfl, rfl, (by omega), (by omega), (by omega), (by rfl)⟩⟩))⟩)
      · refine J_if_neN (pc := 25) (tgt := 32) dX8_reach_25 (by decide) (by decide) (fun _ => ?_) (fun h => absurd h (by decide))
        refine J_iconst (pc := 32) (v := nI 0) dX8_reach_32 (by decide) ?_
        refine J_callV0 (pc := 33) (M := mX8_reach) (as := [.int (nI 1), .int (nI 0)]) dX8_reach_33 fw_X8_isThrown fl_X8_35 fm_X8_isThrown fe_X8_isThrown h19 (by decide) rfl rfl rfl (c_X8_isThrown hs (d := d - 1) (Nat.le_trans (by decide) hdm) (w := w) (n := n) (mv := mv) (rw := rw) (nx := nx) (b := b) (bt := bt) (kn := kn) (en := en) (dn := dn) (rf := rf) (kk := kk) (th := th) ⟨h19, h20, h21, h22, hbb, hbl, hb3⟩ hn1 hn2 gm gr gx 1 0 (by first | assumption | omega) (by first | assumption | omega) (kc := 0) (ks := 0)) hdp (st := []) (Nat.le_of_ble_eq_true rfl) rfl (kr_I fun v8 w8 hv8 hw8 => ?_) kx_I
        obtain ⟨hR8, hFc8⟩ := hw8
        obtain ⟨h19_8, h20_8, h21_8, h22_8, hbb_8, hbl_8, hb3_8⟩ := hR8
        have hF8 := hF.tr hFc8
        subst hv8
        show J X mX8_reach d kc ks 36 [some (.ref 19), some (.int (nI q6)), some (.int (nI q1)), some (.int c)] [.int (nI 1)] w8 _
        refine J_if_eqN (pc := 36) (tgt := 43) dX8_reach_36 (by decide) (by decide) (fun h => absurd h (by decide)) (fun _ => ?_)
        refine J_iconst (pc := 39) (v := nI 0) dX8_reach_39 (by decide) ?_
        refine J_goto (pc := 40) (tgt := 50) dX8_reach_40 (by decide) ?_
        exact J_iret (pc := 50) dX8_reach_50 rfl (⟨rw, nx, b, bt, kn, en, nI (tW 1 0), ⟨h19_8, h20_8, h21_8, h22_8, hbb_8, hbl_8, hb3_8⟩, hF8, gr, gx, (by first | assumption | exact KX_i (by assumption) (by assumption) (by first | rfl | assumption)), (by first | exact Or.inl ⟨rfl, fun g => (by first | exact ne_isN (by assumption) g | exact ne_isN (by assumption) g.1 | exact ne_isN (by assumption) g.2)⟩ | exact Or.inr (Or.inl ⟨rfl, ⟨isN_of (by first | assumption | omega), isN_of (by first | assumption | omega)⟩, fun g => (by first | exact ne_isN (by assumption) g | exact ne_isN (by assumption) g.1 | exact ne_isN (by assumption) g.2)⟩) | exact Or.inr (Or.inr ⟨rfl, ⟨_, _, _, rfl, rfl, rfl, (by omega), (by omega), (by omega), (by rfl)⟩⟩))⟩)
    · refine J_if_neN (pc := 13) (tgt := 20) dX8_reach_13 (by decide) (by decide) (fun _ => ?_) (fun h => absurd h (by decide))
      refine J_iconst (pc := 20) (v := nI 0) dX8_reach_20 (by decide) ?_
      refine J_iload_n (pc := 21) dX8_reach_21 rfl rfl ?_
      refine J_callS0 (pc := 22) (M := mX8_reach) (as := [.int s]) dX8_reach_22 fw_X8_isSet fl_X8_134 fs_X8_isSet rfl (c_X8_isSet hs (d := d - 1) (Nat.le_trans (by decide) hdm) (w := w) s (kc := 0) (ks := 0)) hdp (st := [.int (nI 0), .ref 19]) (Nat.le_of_ble_eq_true rfl) rfl (kr_P fun v9 hv9 => ?_) kx_I
      rcases hv9 with ⟨rfl, hk9_0⟩ | ⟨q9, rfl, hk9_0, rfl⟩
      · refine J_if_neN (pc := 25) (tgt := 32) dX8_reach_25 (by decide) (by decide) (fun h => absurd h (by decide)) (fun _ => ?_)
        refine J_iconst (pc := 28) (v := nI 1) dX8_reach_28 (by decide) ?_
        refine J_goto (pc := 29) (tgt := 33) dX8_reach_29 (by decide) ?_
        refine J_callV0 (pc := 33) (M := mX8_reach) (as := [.int (nI 0), .int (nI 1)]) dX8_reach_33 fw_X8_isThrown fl_X8_35 fm_X8_isThrown fe_X8_isThrown h19 (by decide) rfl rfl rfl (c_X8_isThrown hs (d := d - 1) (Nat.le_trans (by decide) hdm) (w := w) (n := n) (mv := mv) (rw := rw) (nx := nx) (b := b) (bt := bt) (kn := kn) (en := en) (dn := dn) (rf := rf) (kk := kk) (th := th) ⟨h19, h20, h21, h22, hbb, hbl, hb3⟩ hn1 hn2 gm gr gx 0 1 (by first | assumption | omega) (by first | assumption | omega) (kc := 0) (ks := 0)) hdp (st := []) (Nat.le_of_ble_eq_true rfl) rfl (kr_I fun v10 w10 hv10 hw10 => ?_) kx_I
        obtain ⟨hR10, hFc10⟩ := hw10
        obtain ⟨h19_10, h20_10, h21_10, h22_10, hbb_10, hbl_10, hb3_10⟩ := hR10
        have hF10 := hF.tr hFc10
        subst hv10
        show J X mX8_reach d kc ks 36 [some (.ref 19), some (.int s), some (.int (nI q1)), some (.int (nI q5))] [.int (nI 1)] w10 _
        refine J_if_eqN (pc := 36) (tgt := 43) dX8_reach_36 (by decide) (by decide) (fun h => absurd h (by decide)) (fun _ => ?_)
        refine J_iconst (pc := 39) (v := nI 0) dX8_reach_39 (by decide) ?_
        refine J_goto (pc := 40) (tgt := 50) dX8_reach_40 (by decide) ?_
        exact J_iret (pc := 50) dX8_reach_50 rfl (⟨rw, nx, b, bt, kn, en, nI (tW 0 1), ⟨h19_10, h20_10, h21_10, h22_10, hbb_10, hbl_10, hb3_10⟩, hF10, gr, gx, (by first | assumption | exact KX_i (by assumption) (by assumption) (by first | rfl | assumption)), (by first | exact Or.inl ⟨rfl, fun g => (by first | exact ne_isN (by assumption) g | exact ne_isN (by assumption) g.1 | exact ne_isN (by assumption) g.2)⟩ | exact Or.inr (Or.inl ⟨rfl, ⟨isN_of (by first | assumption | omega), isN_of (by first | assumption | omega)⟩, fun g => (by first | exact ne_isN (by assumption) g | exact ne_isN (by assumption) g.1 | exact ne_isN (by assumption) g.2)⟩) | exact Or.inr (Or.inr ⟨rfl, ⟨_, _, _, rfl, rfl, rfl, (by omega), (by omega), (by omega), (by rfl)⟩⟩))⟩)
      · refine J_if_neN (pc := 25) (tgt := 32) dX8_reach_25 (by decide) (by decide) (fun _ => ?_) (fun h => absurd h (by decide))
        refine J_iconst (pc := 32) (v := nI 0) dX8_reach_32 (by decide) ?_
        refine J_callV0 (pc := 33) (M := mX8_reach) (as := [.int (nI 0), .int (nI 0)]) dX8_reach_33 fw_X8_isThrown fl_X8_35 fm_X8_isThrown fe_X8_isThrown h19 (by decide) rfl rfl rfl (c_X8_isThrown hs (d := d - 1) (Nat.le_trans (by decide) hdm) (w := w) (n := n) (mv := mv) (rw := rw) (nx := nx) (b := b) (bt := bt) (kn := kn) (en := en) (dn := dn) (rf := rf) (kk := kk) (th := th) ⟨h19, h20, h21, h22, hbb, hbl, hb3⟩ hn1 hn2 gm gr gx 0 0 (by first | assumption | omega) (by first | assumption | omega) (kc := 0) (ks := 0)) hdp (st := []) (Nat.le_of_ble_eq_true rfl) rfl (kr_I fun v11 w11 hv11 hw11 => ?_) kx_I
        obtain ⟨hR11, hFc11⟩ := hw11
        obtain ⟨h19_11, h20_11, h21_11, h22_11, hbb_11, hbl_11, hb3_11⟩ := hR11
        have hF11 := hF.tr hFc11
        subst hv11
        show J X mX8_reach d kc ks 36 [some (.ref 19), some (.int (nI q9)), some (.int (nI q1)), some (.int (nI q5))] [.int (nI 0)] w11 _
        refine J_if_eqN (pc := 36) (tgt := 43) dX8_reach_36 (by decide) (by decide) (fun _ => ?_) (fun h => absurd h (by decide))
        refine J_aload_n (pc := 43) dX8_reach_43 rfl rfl rfl ?_
        refine J_iload_n (pc := 44) dX8_reach_44 rfl rfl ?_
        refine J_iload_n (pc := 45) dX8_reach_45 rfl rfl ?_
        refine J_iload_n (pc := 46) dX8_reach_46 rfl rfl ?_
        refine J_callV (pc := 47) (M := mX8_reach) (as := [.int (nI q9), .int (nI q1), .int (nI q5)]) dX8_reach_47 fw_X8_reachNow fl_X8_181 fm_X8_reachNow fe_X8_reachNow h19_11 (by decide) rfl rfl rfl (c_X8_reachNow_atx hs (d := d - 1) (Nat.le_trans (by decide) hdm) (w := w11) (n := n) (mv := mv) (rw := rw) (nx := nx) (b := b) (bt := bt) (kn := kn) (en := en) (dn := dn) (rf := rf) (kk := kk) (th := nI (tW 0 0)) ⟨h19_11, h20_11, h21_11, h22_11, hbb_11, hbl_11, hb3_11⟩ hn1 hn2 gm gr gx q9 q1 q5 (by first | assumption | omega) (by first | assumption | omega) (by first | assumption | omega) (by first | assumption | omega) (by first | assumption | omega) (kc := 13) (ks := 2054) (Nat.le_refl _) (Nat.le_refl _)) hdp (by omega) (by omega) (st := []) (Nat.le_of_ble_eq_true rfl) rfl (kr_I fun v12 w12 hv12 hw12 => ?_) kx_I
        obtain ⟨rw12, nx12, b12, bt12, kn12, en12, hR12, hFc12, hgrw12, hgnx12, hp12_0, hp12_1⟩ := hw12
        obtain ⟨h19_12, h20_12, h21_12, h22_12, hbb_12, hbl_12, hb3_12⟩ := hR12
        have qd12 := hFc12.2.1
        have hF12 := hF11.tr hFc12
        subst hv12
        exact J_iret (pc := 50) dX8_reach_50 rfl (⟨rw12, nx12, b12, bt12, kn12, en12, nI (tW 0 0), ⟨h19_12, h20_12, h21_12, h22_12, hbb_12, hbl_12, hb3_12⟩, hF12, hgrw12, hgnx12, (by first | assumption | exact KX_i (by assumption) (by assumption) (by first | rfl | assumption)), (by first | exact Or.inl ⟨rfl, fun g => (by first | exact ne_isN (by assumption) g | exact ne_isN (by assumption) g.1 | exact ne_isN (by assumption) g.2)⟩ | exact Or.inr (Or.inl ⟨rfl, ⟨isN_of (by first | assumption | omega), isN_of (by first | assumption | omega)⟩, fun g => (by first | exact ne_isN (by assumption) g | exact ne_isN (by assumption) g.1 | exact ne_isN (by assumption) g.2)⟩) | exact Or.inr (Or.inr ⟨rfl, ⟨_, _, _, rfl, rfl, rfl, (by omega), (by omega), (by omega), (by rfl)⟩⟩))⟩)
end
section
/-! what is so between two calls, exactly; acts as relations -/
/-- the number of points, done, refused, knocks, the moves -/
abbrev StX : Type := Nat × Int32 × Int32 × Int32 × (Nat → Nat)
def LCx (S : StX) (w : List jC) : Prop := 2 ≤ S.1 ∧ S.1 ≤ 7 ∧ (∀ c, c < 6 → Mv S.1 (S.2.2.2.2 c)) ∧ HX S.1 S.2.1 S.2.2.1 S.2.2.2.1 S.2.2.2.2 w ∧ SH (rX S.1 S.2.1 S.2.2.1 S.2.2.2.1) w
def LRx (o : Nat) (S : StX) (t : Int32) (w : List jC) : Prop := ∃ (mv rw nx : Nat → Nat) (b : Nat) (bt : List Int32) (kn en : Int32), RM S.1 mv rw nx b bt kn en S.2.1 S.2.2.1 S.2.2.2.1 t w ∧ 2 ≤ S.1 ∧ S.1 ≤ 7 ∧ (∀ i, mv i < 7) ∧ (∀ i, rw i < 7) ∧ (∀ i, nx i < 7) ∧ PM S.1 mv ∧ KX S.1 mv kn bt ∧ RLx S.1 S.2.2.2.2 mv ∧ b ≠ o
def LO (o : Nat) (w : List jC) : Prop := 24 ≤ o ∧ ∃ fs : List Value, w[o]? = some (.inr (8, fs)) ∧ fs.length = 2
def LIx (o : Nat) (S S' : StX) (t : Int32) (w : List jC) : Prop := LCx S w ∧ LRx o S' t w ∧ LO o w
def LI (o : Nat) (S S' : StX) (w : List jC) : Prop := ∃ t, LIx o S S' t w
/-- what lies behind the house is kept -/
def F19 (w w' : List jC) : Prop := w.length ≤ w'.length ∧ ∀ i, 19 ≤ i → i < w.length → w'[i]? = w[i]?
theorem F19.of {w w' : List jC} (h : Fr kX w w') : F19 w w' := ⟨h.1, fun i hi hl => h.2 i (Or.inr hi) hl⟩
theorem F19.H {w w' : List jC} (h : FH w w') : F19 w w' := ⟨h.1, fun i hi hl => h.2 i (by omega) hl⟩
theorem F19.N {w w' : List jC} (h : FN w w') : F19 w w' := ⟨h.1, fun i hi hl => h.2 i (by omega) hl⟩
theorem F19.psh {w : List jC} {cs : List jC} : F19 w (w ++ cs) := ⟨by rw [List.length_append]; omega, fun _ _ hl => List.getElem?_append_left hl⟩
theorem LRx.fr {o : Nat} {S : StX} {t : Int32} {w w' : List jC} (h : LRx o S t w) (hF : F19 w w') : LRx o S t w' := by
  obtain ⟨mv, rw, nx, b, bt, kn, en, ⟨h1, h2, h3, h4, h5, h6, h7⟩, r⟩ := h
  exact ⟨mv, rw, nx, b, bt, kn, en, ⟨(hF.2 19 (by decide) (gl h1)).trans h1, (hF.2 20 (by decide) (gl h2)).trans h2, (hF.2 21 (by decide) (gl h3)).trans h3, (hF.2 22 (by decide) (gl h4)).trans h4, (hF.2 b (by omega) (gl h5)).trans h5, h6, h7⟩, r⟩
theorem LO.fr {o : Nat} {w w' : List jC} (h : LO o w) (hF : F19 w w') : LO o w' := by
  obtain ⟨h0, fs, h1, h2⟩ := h
  exact ⟨h0, fs, (hF.2 o (by omega) (gl h1)).trans h1, h2⟩
theorem LIx.c0 {o : Nat} {S S' : StX} {t : Int32} {w : List jC} (h : LIx o S S' t w) : ∃ fs : List Value, w[0]? = some (.inr (7, fs)) := ⟨_, h.1.2.2.2.1.1⟩
theorem LIx.c19 {o : Nat} {S S' : StX} {t : Int32} {w : List jC} (h : LIx o S S' t w) : ∃ fs : List Value, w[19]? = some (.inr (9, fs)) := by
  obtain ⟨_, ⟨mv, rw, nx, b, bt, kn, en, hR, _⟩, _⟩ := h
  exact ⟨_, hR.1⟩
theorem LI.c0 {o : Nat} {S S' : StX} {w : List jC} (h : LI o S S' w) : ∃ fs : List Value, w[0]? = some (.inr (7, fs)) := by
  obtain ⟨t, h⟩ := h
  exact h.c0
theorem LI.c19 {o : Nat} {S S' : StX} {w : List jC} (h : LI o S S' w) : ∃ fs : List Value, w[19]? = some (.inr (9, fs)) := by
  obtain ⟨t, h⟩ := h
  exact h.c19
/-! the class's side -/
theorem LCx.q {S : StX} {w w' : List jC} (h : LCx S w) (hS : SH (rX S.1 S.2.1 S.2.2.1 S.2.2.2.1) w') (hF : Fr kX w w') : LCx S w' := by
  obtain ⟨a1, a2, a3, ⟨a4, a5⟩, a6⟩ := h
  obtain ⟨_, hc, rfl⟩ := hS 0 _ rfl
  exact ⟨a1, a2, a3, ⟨hc, (hF.2 1 (Or.inl rfl) (gl a5)).trans a5⟩, hS⟩
theorem LI.q {o : Nat} {S S' : StX} {w w' : List jC} (h : LI o S S' w) (hS : SH (rX S.1 S.2.1 S.2.2.1 S.2.2.2.1) w') (hF : Fr kX w w') : LI o S S' w' := by
  obtain ⟨t, h1, h2, h3⟩ := h
  exact ⟨t, h1.q hS hF, h2.fr (F19.of hF), h3.fr (F19.of hF)⟩
theorem LCx.psh {S : StX} {w : List jC} {cs : List jC} (h : LCx S w) : LCx S (w ++ cs) := by
  obtain ⟨a1, a2, a3, ⟨a4, a5⟩, a6⟩ := h
  exact ⟨a1, a2, a3, ⟨(List.getElem?_append_left (gl a4)).trans a4, (List.getElem?_append_left (gl a5)).trans a5⟩, a6.push⟩
theorem LI.psh {o : Nat} {S S' : StX} {w w' : List jC} (h : LI o S S' w) (hw : w' = w ++ [.inr (99, [])]) : LI o S S' w' := by
  subst hw
  obtain ⟨t, h1, h2, h3⟩ := h
  exact ⟨t, h1.psh, h2.fr F19.psh, h3.fr F19.psh⟩
theorem LI.eq {o : Nat} {S S' : StX} {w w' : List jC} (h : LI o S S' w) (hw : w' = w) : LI o S S' w' := by
  obtain rfl := hw.symm
  exact h
/-- the moves' cell -/
theorem tA_aF {k : Nat} {f : Nat → Nat} : tA k (aF k f) := ⟨_, rfl, by rw [List.length_map, List.length_range]⟩
theorem LCx.act {S S2 : StX} {w w' : List jC} (h : LCx S w) (hH : HX S2.1 S2.2.1 S2.2.2.1 S2.2.2.2.1 S2.2.2.2.2 w') (hF : FH w w') (h1 : 2 ≤ S2.1) (h2 : S2.1 ≤ 7) (hM : ∀ c, c < 6 → Mv S2.1 (S2.2.2.2.2 c)) : LCx S2 w' := by
  obtain ⟨_, _, _, _, a6⟩ := h
  refine ⟨h1, h2, hM, hH, fun i p hp => ?_⟩
  match i, hp with
  | 0, hp =>
    cases hp
    exact ⟨_, hH.1, rfl⟩
  | 1, hp =>
    cases hp
    exact ⟨_, hH.2, tA_aF⟩
  | i + 2, hp =>
    obtain ⟨c, hc, h2⟩ := a6 (i + 2) p hp
    exact ⟨c, (hF.2 (i + 2) (by omega) (gl hc)).trans hc, h2⟩
theorem LI.act {o : Nat} {S S2 S' : StX} {w w' : List jC} (h : LI o S S' w) (hH : HX S2.1 S2.2.1 S2.2.2.1 S2.2.2.2.1 S2.2.2.2.2 w') (hF : FH w w') (h1 : 2 ≤ S2.1) (h2 : S2.1 ≤ 7) (hM : ∀ c, c < 6 → Mv S2.1 (S2.2.2.2.2 c)) : LI o S2 S' w' := by
  obtain ⟨t, a1, a2, a3⟩ := h
  exact ⟨t, a1.act hH hF h1 h2 hM, a2.fr (F19.H hF), a3.fr (F19.H hF)⟩
theorem LI.nth {o : Nat} {S S2 S' : StX} {w w' : List jC} {st sv rc sz kw : Nat → Nat} {ns tk ro nn : Nat} (h : LI o S S' w) (hH : HX S2.1 S2.2.1 S2.2.2.1 S2.2.2.2.1 S2.2.2.2.2 w') (hF : FN w w') (hC : CM st sv rc sz kw ns tk ro nn w') (hns : ns ≤ 21) (hnn : nn ≤ 7) (h1 : 2 ≤ S2.1) (h2 : S2.1 ≤ 7) (hM : ∀ c, c < 6 → Mv S2.1 (S2.2.2.2.2 c)) : LI o S2 S' w' := by
  obtain ⟨t, ⟨_, _, _, _, a6⟩, a2, a3⟩ := h
  refine ⟨t, ⟨h1, h2, hM, hH, fun i p hp => ?_⟩, a2.fr (F19.N hF), a3.fr (F19.N hF)⟩
  obtain ⟨c2, c3, c4, c5, c6, c7⟩ := hC
  match i, hp with
  | 0, hp =>
    cases hp
    exact ⟨_, hH.1, rfl⟩
  | 1, hp =>
    cases hp
    exact ⟨_, hH.2, tA_aF⟩
  | 2, hp =>
    cases hp
    exact ⟨_, c2, ns, nn, nI tk, nI ro, rfl, hns, hnn⟩
  | 3, hp =>
    cases hp
    exact ⟨_, c3, tA_aF⟩
  | 4, hp =>
    cases hp
    exact ⟨_, c4, tA_aF⟩
  | 5, hp =>
    cases hp
    exact ⟨_, c5, tA_aF⟩
  | 6, hp =>
    cases hp
    exact ⟨_, c6, tA_aF⟩
  | 7, hp =>
    cases hp
    exact ⟨_, c7, tA_aF⟩
  | i + 8, hp =>
    obtain ⟨c, hc, h2⟩ := a6 (i + 8) p hp
    exact ⟨c, (hF.2 (i + 8) (by omega) (gl hc)).trans hc, h2⟩
/-- a plain list of ints as a function -/
theorem aF_of {k : Nat} {xs : List Int32} (h : xs.length = k) : (.inl (0, xs) : jC) = aF k (fun i => (xs.getD i 0).toBitVec.toNat) := by
  unfold aF
  congr 2
  refine List.ext_getElem (by rw [List.length_map, List.length_range]; exact h) (fun i h1 h2 => ?_)
  rw [List.getElem_map, List.getElem_range, ← nI_self, List.getD_eq_getElem?_getD, List.getElem?_eq_getElem h1]
  rfl
/-- the chain's cells as functions -/
theorem CM_of {S : StX} {w : List jC} (h : LCx S w) : ∃ (st sv rc sz kw : Nat → Nat) (ns tk ro nn : Nat), CM st sv rc sz kw ns tk ro nn w := by
  obtain ⟨_, _, _, _, a6⟩ := h
  obtain ⟨_, c2, a, f, b, g, rfl, _, _⟩ := a6 2 _ rfl
  obtain ⟨_, c3, x3, rfl, l3⟩ := a6 3 _ rfl
  obtain ⟨_, c4, x4, rfl, l4⟩ := a6 4 _ rfl
  obtain ⟨_, c5, x5, rfl, l5⟩ := a6 5 _ rfl
  obtain ⟨_, c6, x6, rfl, l6⟩ := a6 6 _ rfl
  obtain ⟨_, c7, x7, rfl, l7⟩ := a6 7 _ rfl
  rw [aF_of l3] at c3
  rw [aF_of l4] at c4
  rw [aF_of l5] at c5
  rw [aF_of l6] at c6
  rw [aF_of l7] at c7
  rw [nI_self b, nI_self g] at c2
  exact ⟨_, _, _, _, _, _, _, _, _, c2, c3, c4, c5, c6, c7⟩
/-! the reference's side -/
theorem LIx.ref {o : Nat} {S S2 : StX} {t : Int32} {w w' : List jC} {b b' : Nat} {mv rw nx : Nat → Nat} {bt : List Int32} {kn en : Int32} (hC : LCx S w) (hO : LO o w) (h24 : b ≠ o) (hb : 23 ≤ b) (hF : FR b b' w w') (hR : RM S2.1 mv rw nx b' bt kn en S2.2.1 S2.2.2.1 S2.2.2.2.1 t w') (h1 : 2 ≤ S2.1) (h2 : S2.1 ≤ 7)
    (gm : ∀ i, mv i < 7) (gr : ∀ i, rw i < 7) (gx : ∀ i, nx i < 7) (hP : PM S2.1 mv) (hK : KX S2.1 mv kn bt) (hL : RLx S2.1 S2.2.2.2.2 mv) : LIx o S S2 t w' ∧ w'[o]? = w[o]? := by
  obtain ⟨a1, a2, a3, ⟨a4, a5⟩, a6⟩ := hC
  obtain ⟨o0, fs, o1, o2⟩ := hO
  have hl := gl o1
  have hk : ∀ i, i < 19 → w'[i]? = w[i]? := fun i hi => hF.2.2 i (Or.inl hi) (by omega) (by omega)
  have ho := hF.at o1 (by omega) (fun e => h24 e.symm)
  refine ⟨⟨⟨a1, a2, a3, ⟨(hk 0 (by decide)).trans a4, (hk 1 (by decide)).trans a5⟩, a6.keep (fun i hi => hk i hi)⟩, ⟨mv, rw, nx, b', bt, kn, en, hR, h1, h2, gm, gr, gx, hP, hK, hL, ?_⟩, ⟨o0, fs, ho, o2⟩⟩, ho.trans o1.symm⟩
  rcases hF.2.1 with e | e
  · rw [e]; exact h24
  · omega
theorem LI.out {o : Nat} {S S' : StX} {w w' : List jC} {k : Nat} {v : Value} {fs : List Value} (h : LI o S S' w) (hfs : fs.length = 2) (hw : w'[o]? = some (.inr (8, fs.set k v))) (hne : ∀ c, c ≠ o → w'[c]? = w[c]?) : LI o S S' w' := by
  obtain ⟨t, ⟨a1, a2, a3, ⟨a4, a5⟩, a6⟩, ⟨mv, rw, nx, b, bt, kn, en, ⟨b1, b2, b3, b4, b5, b6, b7⟩, c1, c2, c3, c4, c5, c6, c7, c8, c9⟩, ⟨o0, _⟩⟩ := h
  refine ⟨t, ⟨a1, a2, a3, ⟨(hne 0 (by omega)).trans a4, (hne 1 (by omega)).trans a5⟩, a6.keep (fun i hi => ?_)⟩, ⟨mv, rw, nx, b, bt, kn, en, ⟨(hne 19 (by omega)).trans b1, (hne 20 (by omega)).trans b2, (hne 21 (by omega)).trans b3, (hne 22 (by omega)).trans b4, (hne b c9).trans b5, b6, b7⟩, c1, c2, c3, c4, c5, c6, c7, c8, c9⟩, ⟨o0, _, hw, by rw [List.length_set]; exact hfs⟩⟩
  have h19 : i < 19 := hi
  exact hne i (by omega)
/-! acts -/
def AG (G1 G2 : Prop) (D : Int32 → StX → Prop) (S : StX) (k : Nat) (v : Int32) (S' : StX) : Prop := (k = 1 ∧ ¬ G1 ∧ S' = S) ∨ (k = 2 ∧ G1 ∧ ¬ G2 ∧ S' = S) ∨ (k = 0 ∧ G1 ∧ G2 ∧ D v S')
section ACTS
variable {G1 G2 : Prop} {D : Int32 → StX → Prop} {S : StX} {k k' : Nat} {v v' : Int32} {a b : StX}
theorem AG.same (hD : ∀ v v' a b, D v a → D v' b → a = b) (h : AG G1 G2 D S k v a) (h' : AG G1 G2 D S k' v' b) : a = b ∧ k = k' := by
  rcases h with ⟨e, g, s⟩ | ⟨e, g, g2, s⟩ | ⟨e, g, g2, s⟩ <;> rcases h' with ⟨e', g', s'⟩ | ⟨e', g', g2', s'⟩ | ⟨e', g', g2', s'⟩
  · exact ⟨s.trans s'.symm, e.trans e'.symm⟩
  · exact absurd g' g
  · exact absurd g' g
  · exact absurd g g'
  · exact ⟨s.trans s'.symm, e.trans e'.symm⟩
  · exact absurd g2' g2
  · exact absurd g g'
  · exact absurd g2 g2'
  · exact ⟨hD _ _ _ _ s s', e.trans e'.symm⟩
theorem AG.val (hV : ∀ v v' a b, D v a → D v' b → v = v') (h : AG G1 G2 D S k v a) (h' : AG G1 G2 D S k v' b) (h0 : k = 0) : v = v' := by
  rcases h with ⟨e, _⟩ | ⟨e, _⟩ | ⟨_, _, _, s⟩
  · omega
  · omega
  · rcases h' with ⟨e, _⟩ | ⟨e, _⟩ | ⟨_, _, _, s'⟩
    · omega
    · omega
    · exact hV _ _ _ _ s s'
theorem AG.k3 (h : AG G1 G2 D S k v a) : k < 3 := by
  rcases h with ⟨e, _⟩ | ⟨e, _⟩ | ⟨e, _⟩ <;> omega
end ACTS
def ES (S : StX) (a x : Nat) : StX := (S.1, S.2.1 + nI 1, S.2.2.1, S.2.2.2.1, up S.2.2.2.2 a x)
def NS (S : StX) : StX := (S.1, S.2.1, S.2.2.1 + nI 1, S.2.2.2.1, S.2.2.2.2)
def KS (S : StX) : StX := (S.1, S.2.1, S.2.2.1, S.2.2.2.1 + nI 1, S.2.2.2.2)
theorem nI_uq {x : Int32} {a b k : Nat} (ha : x = nI a) (hb : x = nI b) (h1 : a < k) (h2 : b < k) (hk : k ≤ 2 ^ 31 := by omega) : a = b := (nI_eq (by omega) (by omega)).mp (ha.symm.trans hb)
theorem ES_M {S : StX} {a x : Nat} (hM : ∀ c, c < 6 → Mv S.1 (S.2.2.2.2 c)) (hx : Mv S.1 x) : ∀ c, c < 6 → Mv (ES S a x).1 ((ES S a x).2.2.2.2 c) := fun c hc => by
  show Mv S.1 (up S.2.2.2.2 a x c)
  by_cases e : c = a
  · rw [e, up_s]; exact hx
  · rw [up_n e]; exact hM c hc
end
section
/-! what each call does and answers, on both sides the same -/
abbrev GX (S : StX) (s : Nat) : Nat → Prop := Gg S.1 (gS S.2.2.2.2 s 6)
def Dpoints (S : StX) (p0 : Int32) (v : Int32) (S' : StX) : Prop := ∃ k : Nat, p0 = nI k ∧ 2 ≤ k ∧ k ≤ 7 ∧ v = nI S.1 ∧ S' = (k, S.2.1 + nI 1, S.2.2.1, S.2.2.2.1, fun _ => 1754760)
def Dlay (S : StX) (p0 p1 : Int32) (v : Int32) (S' : StX) : Prop := ∃ na nb : Nat, p0 = nI na ∧ p1 = nI nb ∧ na < 6 ∧ nb < fc S.1 ∧ v = nI (nu S.1 (S.2.2.2.2 na)) ∧ S' = ES S na (XM S.1 nb)
def Dexchange (S : StX) (p0 p1 p2 : Int32) (v : Int32) (S' : StX) : Prop := ∃ na nb nc : Nat, p0 = nI na ∧ p1 = nI nb ∧ p2 = nI nc ∧ na < 6 ∧ nb < S.1 ∧ nc < S.1 ∧ v = sg S.1 (c7 (S.2.2.2.2 na) (w8 (w8 1754760 nb nc) nc nb)) ∧ S' = ES S na (c7 (S.2.2.2.2 na) (w8 (w8 1754760 nb nc) nc nb))
def Dring (S : StX) (p0 p1 p2 p3 : Int32) (v : Int32) (S' : StX) : Prop := ∃ na nb nc nf : Nat, p0 = nI na ∧ p1 = nI nb ∧ p2 = nI nc ∧ p3 = nI nf ∧ na < 6 ∧ nb < S.1 ∧ nc < S.1 ∧ nf < S.1 ∧ v = sg S.1 (c7 (S.2.2.2.2 na) (w8 (w8 (w8 1754760 nb nc) nc nf) nf nb)) ∧ S' = ES S na (c7 (S.2.2.2.2 na) (w8 (w8 (w8 1754760 nb nc) nc nf) nf nb))
def Dturn (S : StX) (p0 p1 : Int32) (v : Int32) (S' : StX) : Prop := ∃ na : Nat, p0 = nI na ∧ na < 6 ∧ v = sg S.1 (c7 (S.2.2.2.2 na) (bW (fun p => (p + tT S.1 p1) % S.1) S.1)) ∧ S' = ES S na (c7 (S.2.2.2.2 na) (bW (fun p => (p + tT S.1 p1) % S.1) S.1))
def Dmirror (S : StX) (p0 : Int32) (v : Int32) (S' : StX) : Prop := ∃ na : Nat, p0 = nI na ∧ na < 6 ∧ v = sg S.1 (c7 (S.2.2.2.2 na) (bW (fun p => S.1 - 1 - p) S.1)) ∧ S' = ES S na (c7 (S.2.2.2.2 na) (bW (fun p => S.1 - 1 - p) S.1))
def Dcopy (S : StX) (p0 p1 : Int32) (v : Int32) (S' : StX) : Prop := ∃ na nb : Nat, p0 = nI na ∧ p1 = nI nb ∧ na < 6 ∧ nb < 6 ∧ v = (if (S.2.2.2.2 nb) = (S.2.2.2.2 na) then nI 0 else nI 1) ∧ S' = ES S nb (S.2.2.2.2 na)
def Dswap (S : StX) (p0 p1 : Int32) (v : Int32) (S' : StX) : Prop := ∃ na nb : Nat, p0 = nI na ∧ p1 = nI nb ∧ na < 6 ∧ nb < 6 ∧ v = (if (S.2.2.2.2 na) = (S.2.2.2.2 nb) then nI 0 else nI 1) ∧ S' = (S.1, S.2.1 + nI 1, S.2.2.1, S.2.2.2.1, up (up S.2.2.2.2 na (S.2.2.2.2 nb)) nb (S.2.2.2.2 na))
def Dthen (S : StX) (p0 p1 p2 : Int32) (v : Int32) (S' : StX) : Prop := ∃ na nb nc : Nat, p0 = nI na ∧ p1 = nI nb ∧ p2 = nI nc ∧ na < 6 ∧ nb < 6 ∧ nc < 6 ∧ v = nI (nu S.1 (c7 (S.2.2.2.2 na) (S.2.2.2.2 nb))) ∧ S' = ES S nc (c7 (S.2.2.2.2 na) (S.2.2.2.2 nb))
def Dundo (S : StX) (p0 p1 : Int32) (v : Int32) (S' : StX) : Prop := ∃ na nb : Nat, p0 = nI na ∧ p1 = nI nb ∧ na < 6 ∧ nb < 6 ∧ v = nI (nu S.1 (i7 (S.2.2.2.2 na))) ∧ S' = ES S nb (i7 (S.2.2.2.2 na))
def Dpower (S : StX) (p0 p1 p2 : Int32) (v : Int32) (S' : StX) : Prop := ∃ na nc : Nat, p0 = nI na ∧ p2 = nI nc ∧ na < 6 ∧ nc < 6 ∧ v = nI (nu S.1 (pwM p1 (S.2.2.2.2 na))) ∧ S' = ES S nc (pwM p1 (S.2.2.2.2 na))
def Drename (S : StX) (p0 p1 p2 : Int32) (v : Int32) (S' : StX) : Prop := ∃ na nb nc : Nat, p0 = nI na ∧ p1 = nI nb ∧ p2 = nI nc ∧ na < 6 ∧ nb < 6 ∧ nc < 6 ∧ v = nI (nu S.1 (c7 (c7 (i7 (S.2.2.2.2 nb)) (S.2.2.2.2 na)) (S.2.2.2.2 nb))) ∧ S' = ES S nc (c7 (c7 (i7 (S.2.2.2.2 nb)) (S.2.2.2.2 na)) (S.2.2.2.2 nb))
def Dmatch (S : StX) (p0 p1 p2 : Int32) (v : Int32) (S' : StX) : Prop := ∃ a b c : Nat, p0 = nI a ∧ p1 = nI b ∧ p2 = nI c ∧ a < 6 ∧ b < 6 ∧ c < 6 ∧ ((∃ y, LN S.1 (S.2.2.2.2 a) (S.2.2.2.2 b) y ∧ v = nI (nu S.1 y) ∧ S' = ES S c y) ∨ ((∀ w, ¬ RN S.1 (S.2.2.2.2 a) (S.2.2.2.2 b) w) ∧ v = (-9) ∧ S' = NS S))
def Dnth (S : StX) (p0 p1 p2 p3 : Int32) (v : Int32) (S' : StX) : Prop := ∃ s a b rk : Nat, p0 = nI s ∧ p1 = nI a ∧ p3 = nI b ∧ p2 = nI rk ∧ s < 64 ∧ a < 6 ∧ b < 6 ∧ rk < 2 ^ 31 ∧ ((∃ y, rk < cd S.1 (GX S s) ∧ Mv S.1 y ∧ GK S.1 (GX S s) (d8 (S.2.2.2.2 a)) rk y ∧ v = nI (nu S.1 y) ∧ S' = ES S b y) ∨ (¬ rk < cd S.1 (GX S s) ∧ v = (-9) ∧ S' = NS S))
def Dnumber (S : StX) (p0 : Int32) (v : Int32) (S' : StX) : Prop := ∃ na : Nat, p0 = nI na ∧ na < 6 ∧ v = nI (nu S.1 (S.2.2.2.2 na)) ∧ S' = S
def Dgoes (S : StX) (p0 p1 : Int32) (v : Int32) (S' : StX) : Prop := ∃ na nb : Nat, p0 = nI na ∧ p1 = nI nb ∧ na < 6 ∧ nb < S.1 ∧ v = nI (d8 (S.2.2.2.2 na) nb) ∧ S' = S
def Dorder (S : StX) (p0 : Int32) (v : Int32) (S' : StX) : Prop := ∃ na : Nat, p0 = nI na ∧ na < 6 ∧ v = nI (oC (S.2.2.2.2 na)) ∧ S' = S
def Dsign (S : StX) (p0 : Int32) (v : Int32) (S' : StX) : Prop := ∃ na : Nat, p0 = nI na ∧ na < 6 ∧ v = sg S.1 (S.2.2.2.2 na) ∧ S' = S
def Dstays (S : StX) (p0 : Int32) (v : Int32) (S' : StX) : Prop := ∃ na : Nat, p0 = nI na ∧ na < 6 ∧ v = nI (stF (d8 (S.2.2.2.2 na)) S.1) ∧ S' = S
def DareAlike (S : StX) (p0 p1 : Int32) (v : Int32) (S' : StX) : Prop := ∃ na nb : Nat, p0 = nI na ∧ p1 = nI nb ∧ na < 6 ∧ nb < 6 ∧ v = nI (on (LK (S.2.2.2.2 na) (S.2.2.2.2 nb))) ∧ S' = S
def Dcommute (S : StX) (p0 p1 : Int32) (v : Int32) (S' : StX) : Prop := ∃ na nb : Nat, p0 = nI na ∧ p1 = nI nb ∧ na < 6 ∧ nb < 6 ∧ v = (if c7 (S.2.2.2.2 na) (S.2.2.2.2 nb) = c7 (S.2.2.2.2 nb) (S.2.2.2.2 na) then nI 1 else nI 0) ∧ S' = S
def Dreach (S : StX) (p0 p1 p2 : Int32) (v : Int32) (S' : StX) : Prop := ∃ na nb nc : Nat, p0 = nI na ∧ p1 = nI nb ∧ p2 = nI nc ∧ na < 64 ∧ nb < 6 ∧ nc < S.1 ∧ v = nI (sBv (RP S.1 (GX S na) (d8 (S.2.2.2.2 nb)) nc) S.1) ∧ S' = S
def Dhouse (S : StX) (p0 : Int32) (v : Int32) (S' : StX) : Prop := ∃ na : Nat, p0 = nI na ∧ na < 3 ∧ v = (if na = 0 then S.2.1 else if na = 1 then S.2.2.1 else S.2.2.2.1) ∧ S' = S
theorem on_01 (p : Prop) : nI (on p) = nI 0 ∨ nI (on p) = nI 1 := by
  by_cases h : p
  · rw [on_t h]; exact Or.inr rfl
  · rw [on_f h]; exact Or.inl rfl
theorem fD_points {S : StX} (h2 : 2 ≤ S.1) (h7 : S.1 ≤ 7) (hM : ∀ c, c < 6 → Mv S.1 (S.2.2.2.2 c)) (p0 : Int32) (v v' : Int32) (x y : StX) (h : Dpoints S p0 v x) (h' : Dpoints S p0 v' y) : x = y ∧ v = v' := by
  obtain ⟨k, e1, k1, k2, ev, e⟩ := h
  obtain ⟨k', e1', k1', k2', ev', e'⟩ := h'
  obtain rfl := nI_uq e1 e1' (k := 8) (by omega) (by omega)
  exact ⟨e.trans e'.symm, ev.trans ev'.symm⟩
theorem fD_lay {S : StX} (h2 : 2 ≤ S.1) (h7 : S.1 ≤ 7) (hM : ∀ c, c < 6 → Mv S.1 (S.2.2.2.2 c)) (p0 p1 : Int32) (v v' : Int32) (x y : StX) (h : Dlay S p0 p1 v x) (h' : Dlay S p0 p1 v' y) : x = y ∧ v = v' := by
  have hf7 := fc_7 h7
  obtain ⟨na, nb, ea, eb, ha, hb, ev, e⟩ := h
  obtain ⟨na', nb', ea', eb', ha', hb', ev', e'⟩ := h'
  obtain rfl := nI_uq ea ea' ha ha'
  obtain rfl := nI_uq eb eb' hb hb'
  exact ⟨e.trans e'.symm, ev.trans ev'.symm⟩
theorem fD_exchange {S : StX} (h2 : 2 ≤ S.1) (h7 : S.1 ≤ 7) (hM : ∀ c, c < 6 → Mv S.1 (S.2.2.2.2 c)) (p0 p1 p2 : Int32) (v v' : Int32) (x y : StX) (h : Dexchange S p0 p1 p2 v x) (h' : Dexchange S p0 p1 p2 v' y) : x = y ∧ v = v' := by
  obtain ⟨na, nb, nc, ea, eb, ec, ha, hb, hc, ev, e⟩ := h
  obtain ⟨na', nb', nc', ea', eb', ec', ha', hb', hc', ev', e'⟩ := h'
  obtain rfl := nI_uq ea ea' ha ha'
  obtain rfl := nI_uq eb eb' hb hb'
  obtain rfl := nI_uq ec ec' hc hc'
  exact ⟨e.trans e'.symm, ev.trans ev'.symm⟩
theorem fD_ring {S : StX} (h2 : 2 ≤ S.1) (h7 : S.1 ≤ 7) (hM : ∀ c, c < 6 → Mv S.1 (S.2.2.2.2 c)) (p0 p1 p2 p3 : Int32) (v v' : Int32) (x y : StX) (h : Dring S p0 p1 p2 p3 v x) (h' : Dring S p0 p1 p2 p3 v' y) : x = y ∧ v = v' := by
  obtain ⟨na, nb, nc, nf, ea, eb, ec, ef, ha, hb, hc, hf, ev, e⟩ := h
  obtain ⟨na', nb', nc', nf', ea', eb', ec', ef', ha', hb', hc', hf', ev', e'⟩ := h'
  obtain rfl := nI_uq ea ea' ha ha'
  obtain rfl := nI_uq eb eb' hb hb'
  obtain rfl := nI_uq ec ec' hc hc'
  obtain rfl := nI_uq ef ef' hf hf'
  exact ⟨e.trans e'.symm, ev.trans ev'.symm⟩
theorem fD_turn {S : StX} (h2 : 2 ≤ S.1) (h7 : S.1 ≤ 7) (hM : ∀ c, c < 6 → Mv S.1 (S.2.2.2.2 c)) (p0 p1 : Int32) (v v' : Int32) (x y : StX) (h : Dturn S p0 p1 v x) (h' : Dturn S p0 p1 v' y) : x = y ∧ v = v' := by
  obtain ⟨na, ea, ha, ev, e⟩ := h
  obtain ⟨na', ea', ha', ev', e'⟩ := h'
  obtain rfl := nI_uq ea ea' ha ha'
  exact ⟨e.trans e'.symm, ev.trans ev'.symm⟩
theorem fD_mirror {S : StX} (h2 : 2 ≤ S.1) (h7 : S.1 ≤ 7) (hM : ∀ c, c < 6 → Mv S.1 (S.2.2.2.2 c)) (p0 : Int32) (v v' : Int32) (x y : StX) (h : Dmirror S p0 v x) (h' : Dmirror S p0 v' y) : x = y ∧ v = v' := by
  obtain ⟨na, ea, ha, ev, e⟩ := h
  obtain ⟨na', ea', ha', ev', e'⟩ := h'
  obtain rfl := nI_uq ea ea' ha ha'
  exact ⟨e.trans e'.symm, ev.trans ev'.symm⟩
theorem fD_copy {S : StX} (h2 : 2 ≤ S.1) (h7 : S.1 ≤ 7) (hM : ∀ c, c < 6 → Mv S.1 (S.2.2.2.2 c)) (p0 p1 : Int32) (v v' : Int32) (x y : StX) (h : Dcopy S p0 p1 v x) (h' : Dcopy S p0 p1 v' y) : x = y ∧ v = v' := by
  obtain ⟨na, nb, ea, eb, ha, hb, ev, e⟩ := h
  obtain ⟨na', nb', ea', eb', ha', hb', ev', e'⟩ := h'
  obtain rfl := nI_uq ea ea' ha ha'
  obtain rfl := nI_uq eb eb' hb hb'
  exact ⟨e.trans e'.symm, ev.trans ev'.symm⟩
theorem fD_swap {S : StX} (h2 : 2 ≤ S.1) (h7 : S.1 ≤ 7) (hM : ∀ c, c < 6 → Mv S.1 (S.2.2.2.2 c)) (p0 p1 : Int32) (v v' : Int32) (x y : StX) (h : Dswap S p0 p1 v x) (h' : Dswap S p0 p1 v' y) : x = y ∧ v = v' := by
  obtain ⟨na, nb, ea, eb, ha, hb, ev, e⟩ := h
  obtain ⟨na', nb', ea', eb', ha', hb', ev', e'⟩ := h'
  obtain rfl := nI_uq ea ea' ha ha'
  obtain rfl := nI_uq eb eb' hb hb'
  exact ⟨e.trans e'.symm, ev.trans ev'.symm⟩
theorem fD_then {S : StX} (h2 : 2 ≤ S.1) (h7 : S.1 ≤ 7) (hM : ∀ c, c < 6 → Mv S.1 (S.2.2.2.2 c)) (p0 p1 p2 : Int32) (v v' : Int32) (x y : StX) (h : Dthen S p0 p1 p2 v x) (h' : Dthen S p0 p1 p2 v' y) : x = y ∧ v = v' := by
  obtain ⟨na, nb, nc, ea, eb, ec, ha, hb, hc, ev, e⟩ := h
  obtain ⟨na', nb', nc', ea', eb', ec', ha', hb', hc', ev', e'⟩ := h'
  obtain rfl := nI_uq ea ea' ha ha'
  obtain rfl := nI_uq eb eb' hb hb'
  obtain rfl := nI_uq ec ec' hc hc'
  exact ⟨e.trans e'.symm, ev.trans ev'.symm⟩
theorem fD_undo {S : StX} (h2 : 2 ≤ S.1) (h7 : S.1 ≤ 7) (hM : ∀ c, c < 6 → Mv S.1 (S.2.2.2.2 c)) (p0 p1 : Int32) (v v' : Int32) (x y : StX) (h : Dundo S p0 p1 v x) (h' : Dundo S p0 p1 v' y) : x = y ∧ v = v' := by
  obtain ⟨na, nb, ea, eb, ha, hb, ev, e⟩ := h
  obtain ⟨na', nb', ea', eb', ha', hb', ev', e'⟩ := h'
  obtain rfl := nI_uq ea ea' ha ha'
  obtain rfl := nI_uq eb eb' hb hb'
  exact ⟨e.trans e'.symm, ev.trans ev'.symm⟩
theorem fD_power {S : StX} (h2 : 2 ≤ S.1) (h7 : S.1 ≤ 7) (hM : ∀ c, c < 6 → Mv S.1 (S.2.2.2.2 c)) (p0 p1 p2 : Int32) (v v' : Int32) (x y : StX) (h : Dpower S p0 p1 p2 v x) (h' : Dpower S p0 p1 p2 v' y) : x = y ∧ v = v' := by
  obtain ⟨na, nc, ea, ec, ha, hc, ev, e⟩ := h
  obtain ⟨na', nc', ea', ec', ha', hc', ev', e'⟩ := h'
  obtain rfl := nI_uq ea ea' ha ha'
  obtain rfl := nI_uq ec ec' hc hc'
  exact ⟨e.trans e'.symm, ev.trans ev'.symm⟩
theorem fD_rename {S : StX} (h2 : 2 ≤ S.1) (h7 : S.1 ≤ 7) (hM : ∀ c, c < 6 → Mv S.1 (S.2.2.2.2 c)) (p0 p1 p2 : Int32) (v v' : Int32) (x y : StX) (h : Drename S p0 p1 p2 v x) (h' : Drename S p0 p1 p2 v' y) : x = y ∧ v = v' := by
  obtain ⟨na, nb, nc, ea, eb, ec, ha, hb, hc, ev, e⟩ := h
  obtain ⟨na', nb', nc', ea', eb', ec', ha', hb', hc', ev', e'⟩ := h'
  obtain rfl := nI_uq ea ea' ha ha'
  obtain rfl := nI_uq eb eb' hb hb'
  obtain rfl := nI_uq ec ec' hc hc'
  exact ⟨e.trans e'.symm, ev.trans ev'.symm⟩
theorem fD_match {S : StX} (h2 : 2 ≤ S.1) (h7 : S.1 ≤ 7) (hM : ∀ c, c < 6 → Mv S.1 (S.2.2.2.2 c)) (p0 p1 p2 : Int32) (v v' : Int32) (x y : StX) (h : Dmatch S p0 p1 p2 v x) (h' : Dmatch S p0 p1 p2 v' y) : x = y ∧ v = v' := by
  obtain ⟨a, b, c, e1, e2, e3, h1, h2, h3, e⟩ := h
  obtain ⟨a', b', c', e1', e2', e3', h1', h2', h3', e'⟩ := h'
  obtain rfl := nI_uq e1 e1' h1 h1'
  obtain rfl := nI_uq e2 e2' h2 h2'
  obtain rfl := nI_uq e3 e3' h3 h3'
  rcases e with ⟨z, hz, ev, e⟩ | ⟨hn, ev, e⟩
  · rcases e' with ⟨z', hz', ev', e'⟩ | ⟨hn', ev', e'⟩
    · obtain rfl := LN_same (by omega) h7 hz hz'
      exact ⟨e.trans e'.symm, ev.trans ev'.symm⟩
    · exact absurd hz.2.1 (hn' _)
  · rcases e' with ⟨z', hz', ev', e'⟩ | ⟨hn', ev', e'⟩
    · exact absurd hz'.2.1 (hn _)
    · exact ⟨e.trans e'.symm, ev.trans ev'.symm⟩
theorem fD_nth {S : StX} (h2 : 2 ≤ S.1) (h7 : S.1 ≤ 7) (hM : ∀ c, c < 6 → Mv S.1 (S.2.2.2.2 c)) (p0 p1 p2 p3 : Int32) (v v' : Int32) (x y : StX) (h : Dnth S p0 p1 p2 p3 v x) (h' : Dnth S p0 p1 p2 p3 v' y) : x = y ∧ v = v' := by
  obtain ⟨s, a, b, rk, e1, e2, e3, e4, h1, h2, h3, h4, e⟩ := h
  obtain ⟨s', a', b', rk', e1', e2', e3', e4', h1', h2', h3', h4', e'⟩ := h'
  obtain rfl := nI_uq e1 e1' h1 h1'
  obtain rfl := nI_uq e2 e2' h2 h2'
  obtain rfl := nI_uq e3 e3' h3 h3'
  obtain rfl := nI_uq e4 e4' h4 h4'
  rcases e with ⟨z, hz1, hz2, hz3, ev, e⟩ | ⟨hn, ev, e⟩
  · rcases e' with ⟨z', hz1', hz2', hz3', ev', e'⟩ | ⟨hn', ev', e'⟩
    · obtain rfl := GK_same (by omega) h7 (hM a h2).2.1 hz2 hz2' hz3 hz3'
      exact ⟨e.trans e'.symm, ev.trans ev'.symm⟩
    · exact absurd hz1 hn'
  · rcases e' with ⟨z', hz1', hz2', hz3', ev', e'⟩ | ⟨hn', ev', e'⟩
    · exact absurd hz1' hn
    · exact ⟨e.trans e'.symm, ev.trans ev'.symm⟩
theorem fD_number {S : StX} (h2 : 2 ≤ S.1) (h7 : S.1 ≤ 7) (hM : ∀ c, c < 6 → Mv S.1 (S.2.2.2.2 c)) (p0 : Int32) (v v' : Int32) (x y : StX) (h : Dnumber S p0 v x) (h' : Dnumber S p0 v' y) : x = y ∧ v = v' := by
  obtain ⟨na, ea, ha, ev, e⟩ := h
  obtain ⟨na', ea', ha', ev', e'⟩ := h'
  obtain rfl := nI_uq ea ea' ha ha'
  exact ⟨e.trans e'.symm, ev.trans ev'.symm⟩
theorem fD_goes {S : StX} (h2 : 2 ≤ S.1) (h7 : S.1 ≤ 7) (hM : ∀ c, c < 6 → Mv S.1 (S.2.2.2.2 c)) (p0 p1 : Int32) (v v' : Int32) (x y : StX) (h : Dgoes S p0 p1 v x) (h' : Dgoes S p0 p1 v' y) : x = y ∧ v = v' := by
  obtain ⟨na, nb, ea, eb, ha, hb, ev, e⟩ := h
  obtain ⟨na', nb', ea', eb', ha', hb', ev', e'⟩ := h'
  obtain rfl := nI_uq ea ea' ha ha'
  obtain rfl := nI_uq eb eb' hb hb'
  exact ⟨e.trans e'.symm, ev.trans ev'.symm⟩
theorem fD_order {S : StX} (h2 : 2 ≤ S.1) (h7 : S.1 ≤ 7) (hM : ∀ c, c < 6 → Mv S.1 (S.2.2.2.2 c)) (p0 : Int32) (v v' : Int32) (x y : StX) (h : Dorder S p0 v x) (h' : Dorder S p0 v' y) : x = y ∧ v = v' := by
  obtain ⟨na, ea, ha, ev, e⟩ := h
  obtain ⟨na', ea', ha', ev', e'⟩ := h'
  obtain rfl := nI_uq ea ea' ha ha'
  exact ⟨e.trans e'.symm, ev.trans ev'.symm⟩
theorem fD_sign {S : StX} (h2 : 2 ≤ S.1) (h7 : S.1 ≤ 7) (hM : ∀ c, c < 6 → Mv S.1 (S.2.2.2.2 c)) (p0 : Int32) (v v' : Int32) (x y : StX) (h : Dsign S p0 v x) (h' : Dsign S p0 v' y) : x = y ∧ v = v' := by
  obtain ⟨na, ea, ha, ev, e⟩ := h
  obtain ⟨na', ea', ha', ev', e'⟩ := h'
  obtain rfl := nI_uq ea ea' ha ha'
  exact ⟨e.trans e'.symm, ev.trans ev'.symm⟩
theorem fD_stays {S : StX} (h2 : 2 ≤ S.1) (h7 : S.1 ≤ 7) (hM : ∀ c, c < 6 → Mv S.1 (S.2.2.2.2 c)) (p0 : Int32) (v v' : Int32) (x y : StX) (h : Dstays S p0 v x) (h' : Dstays S p0 v' y) : x = y ∧ v = v' := by
  obtain ⟨na, ea, ha, ev, e⟩ := h
  obtain ⟨na', ea', ha', ev', e'⟩ := h'
  obtain rfl := nI_uq ea ea' ha ha'
  exact ⟨e.trans e'.symm, ev.trans ev'.symm⟩
theorem fD_areAlike {S : StX} (h2 : 2 ≤ S.1) (h7 : S.1 ≤ 7) (hM : ∀ c, c < 6 → Mv S.1 (S.2.2.2.2 c)) (p0 p1 : Int32) (v v' : Int32) (x y : StX) (h : DareAlike S p0 p1 v x) (h' : DareAlike S p0 p1 v' y) : x = y ∧ v = v' := by
  obtain ⟨na, nb, ea, eb, ha, hb, ev, e⟩ := h
  obtain ⟨na', nb', ea', eb', ha', hb', ev', e'⟩ := h'
  obtain rfl := nI_uq ea ea' ha ha'
  obtain rfl := nI_uq eb eb' hb hb'
  exact ⟨e.trans e'.symm, ev.trans ev'.symm⟩
theorem fD_commute {S : StX} (h2 : 2 ≤ S.1) (h7 : S.1 ≤ 7) (hM : ∀ c, c < 6 → Mv S.1 (S.2.2.2.2 c)) (p0 p1 : Int32) (v v' : Int32) (x y : StX) (h : Dcommute S p0 p1 v x) (h' : Dcommute S p0 p1 v' y) : x = y ∧ v = v' := by
  obtain ⟨na, nb, ea, eb, ha, hb, ev, e⟩ := h
  obtain ⟨na', nb', ea', eb', ha', hb', ev', e'⟩ := h'
  obtain rfl := nI_uq ea ea' ha ha'
  obtain rfl := nI_uq eb eb' hb hb'
  exact ⟨e.trans e'.symm, ev.trans ev'.symm⟩
theorem fD_reach {S : StX} (h2 : 2 ≤ S.1) (h7 : S.1 ≤ 7) (hM : ∀ c, c < 6 → Mv S.1 (S.2.2.2.2 c)) (p0 p1 p2 : Int32) (v v' : Int32) (x y : StX) (h : Dreach S p0 p1 p2 v x) (h' : Dreach S p0 p1 p2 v' y) : x = y ∧ v = v' := by
  obtain ⟨na, nb, nc, ea, eb, ec, ha, hb, hc, ev, e⟩ := h
  obtain ⟨na', nb', nc', ea', eb', ec', ha', hb', hc', ev', e'⟩ := h'
  obtain rfl := nI_uq ea ea' ha ha'
  obtain rfl := nI_uq eb eb' hb hb'
  obtain rfl := nI_uq ec ec' hc hc'
  exact ⟨e.trans e'.symm, ev.trans ev'.symm⟩
theorem fD_house {S : StX} (h2 : 2 ≤ S.1) (h7 : S.1 ≤ 7) (hM : ∀ c, c < 6 → Mv S.1 (S.2.2.2.2 c)) (p0 : Int32) (v v' : Int32) (x y : StX) (h : Dhouse S p0 v x) (h' : Dhouse S p0 v' y) : x = y ∧ v = v' := by
  obtain ⟨na, ea, ha, ev, e⟩ := h
  obtain ⟨na', ea', ha', ev', e'⟩ := h'
  obtain rfl := nI_uq ea ea' ha ha'
  exact ⟨e.trans e'.symm, ev.trans ev'.symm⟩
theorem bD_areAlike {S : StX} (p0 p1 : Int32) (v : Int32) (x : StX) (h : DareAlike S p0 p1 v x) : v = nI 0 ∨ v = nI 1 := by
  obtain ⟨_, _, _, _, _, _, ev, _⟩ := h
  rw [ev]
  exact on_01 _
theorem bD_commute {S : StX} (p0 p1 : Int32) (v : Int32) (x : StX) (h : Dcommute S p0 p1 v x) : v = nI 0 ∨ v = nI 1 := by
  obtain ⟨_, _, _, _, _, _, ev, _⟩ := h
  rw [ev]
  split; exact Or.inr rfl; exact Or.inl rfl
/-! the reference's rows are the house's moves, also behind an act -/
section RLS
variable {n : Nat} {cm mv mv' : Nat → Nat}
theorem RLx_mW (h : RLx n cm mv) {c : Nat} (hc : c < 6) : mW n mv c = cm c := (h c hc).symm
theorem RL_behind (hn : n ≤ 7) (hP : PM n mv) (h : RLx n cm mv) {a x : Nat} {g : Nat → Nat} (ha : a < 6) (hg : Pn n g) (hx : x = mkM n g) (hA : ACT n mv a (fun p => g (mv (a * 7 + p))) mv') : RLx n (up cm a (c7 (cm a) x)) mv' :=
  RLx_act h hA (by rw [hx, h a ha]; exact c7_mkM hn (hP a ha) hg)
theorem RL_exchange (hn : n ≤ 7) (hP : PM n mv) (h : RLx n cm mv) {a b c : Nat} (ha : a < 6) (hb : b < n) (hc : c < n) (hA : ACT n mv a (fun p => sw2 b c (mv (a * 7 + p))) mv') : RLx n (up cm a (c7 (cm a) (w8 (w8 1754760 b c) c b))) mv' :=
  RL_behind hn hP h ha (sw2_Pn hb hc) (w8_2 hn hb hc) hA
theorem RL_ring (hn : n ≤ 7) (hP : PM n mv) (h : RLx n cm mv) {a b c f : Nat} (ha : a < 6) (hb : b < n) (hc : c < n) (hf : f < n) (h1 : b ≠ c) (h2 : c ≠ f) (h3 : f ≠ b) (hA : ACT n mv a (fun p => sw3 b c f (mv (a * 7 + p))) mv') : RLx n (up cm a (c7 (cm a) (w8 (w8 (w8 1754760 b c) c f) f b))) mv' :=
  RL_behind hn hP h ha (sw3_Pn hb hc hf h1 h2 h3) (w8_3 hn hb hc hf) hA
theorem RL_mirror (hn : n ≤ 7) (hP : PM n mv) (h : RLx n cm mv) {a : Nat} (ha : a < 6) (hA : ACT n mv a (fun p => n - 1 - mv (a * 7 + p)) mv') : RLx n (up cm a (c7 (cm a) (bW (fun p => n - 1 - p) n))) mv' :=
  RL_behind (g := fun p => n - 1 - p) hn hP h ha (Pn_rev (fun _ _ => rfl)) (bW_M hn (Pn_rev (fun _ _ => rfl)) _ (fun _ _ => rfl) (fun p _ => by omega)) hA
theorem RL_turn (hn1 : 2 ≤ n) (hn : n ≤ 7) (hP : PM n mv) (h : RLx n cm mv) {a : Nat} {T : Nat} (ha : a < 6) (hA : ACT n mv a (fun p => (mv (a * 7 + p) + T) % n) mv') : RLx n (up cm a (c7 (cm a) (bW (fun p => (p + T) % n) n))) mv' :=
  RL_behind (g := fun p => (p + T) % n) hn hP h ha (Pn_rot (by omega) (fun _ _ => rfl)) (bW_M hn (Pn_rot (by omega) (fun _ _ => rfl)) _ (fun _ _ => rfl) (fun p _ => by have := Nat.mod_lt (p + T) (show 0 < n by omega); omega)) hA
theorem RL_copy (h : RLx n cm mv) {a b : Nat} (ha : a < 6) (hA : ACT n mv b (fun p => mv (a * 7 + p)) mv') : RLx n (up cm b (cm a)) mv' := RLx_act h hA (h a ha)
theorem RL_then (hn : n ≤ 7) (hP : PM n mv) (h : RLx n cm mv) {a b c : Nat} (ha : a < 6) (hb : b < 6) (hA : ACT n mv c (fun p => mv (b * 7 + mv (a * 7 + p))) mv') : RLx n (up cm c (c7 (cm a) (cm b))) mv' :=
  RLx_act h hA (by rw [h a ha, h b hb]; exact c7_mkM hn (hP a ha) (hP b hb))
theorem RL_undo (hn : n ≤ 7) (hP : PM n mv) (h : RLx n cm mv) {a b : Nat} {f : Nat → Nat} (ha : a < 6) (hf : ∀ p, p < n → f (mv (a * 7 + p)) = p) (hA : ACT n mv b f mv') : RLx n (up cm b (i7 (cm a))) mv' :=
  RLx_act h hA (by rw [h a ha]; exact i7_mkM hn (hP a ha) hf)
theorem RL_power (hn : n ≤ 7) (hP : PM n mv) (h : RLx n cm mv) {a c : Nat} {t : Int32} (ha : a < 6) (h1 : (-1000) ≤ t) (h2 : t ≤ nI 1000) (hA : ACT n mv c (it (fun p => mv (a * 7 + p)) (tP t)) mv') : RLx n (up cm c (pwM t (cm a))) mv' := by
  have hM := RLx_M hn h hP a ha
  have hq := it_Pn (hP a ha) (tP t)
  refine RLx_act h hA ((pwM_Mv hn hM t).ext (mkM_Mv hn hq) (fun p hp => ?_))
  rw [pwM_d hn hM h1 h2 hp, mkM_d hn hq.1 hp]
  have hi : ∀ k, it (d8 (cm a)) k p = it (fun p => mv (a * 7 + p)) k p := by
    intro k
    induction k with
    | zero => rfl
    | succ k ih =>
      show d8 (cm a) (it (d8 (cm a)) k p) = mv (a * 7 + it (fun p => mv (a * 7 + p)) k p)
      rw [ih]
      exact RLx_d hn h hP ha (it_lt (hP a ha) hp k)
  exact hi _
theorem RL_rename (hn : n ≤ 7) (hP : PM n mv) (h : RLx n cm mv) {a b c : Nat} {f : Nat → Nat} (ha : a < 6) (hb : b < 6) (hf : ∀ p, p < n → f (mv (b * 7 + p)) = mv (b * 7 + mv (a * 7 + p))) (hA : ACT n mv c f mv') : RLx n (up cm c (c7 (c7 (i7 (cm b)) (cm a)) (cm b))) mv' := by
  have hMb := RLx_M hn h hP b hb
  have hMa := RLx_M hn h hP a ha
  have hf2 : Pn n f := Pn_inv (hP b hb) (Pn.comp (hP a ha) (hP b hb)) hf
  have i1 := i7_Mv hn hMb
  have i2 := c7_Mv hn i1 hMa
  refine RLx_act h hA ((c7_Mv hn i2 hMb).ext (mkM_Mv hn hf2) (fun v hv => ?_))
  rw [mkM_d hn hf2.1 hv, c7_d (by omega), c7_d (by omega)]
  have hg := i1.2.1.1 v hv
  have e1 : mv (b * 7 + d8 (i7 (cm b)) v) = v := by
    rw [← RLx_d hn h hP hb hg]
    have e := cM_d hn (iM_Mv hn hMb) hMb hv
    rw [iM_c hn hMb, eM_d hn hv, ← i7_M hn hMb] at e
    exact e.symm
  have e2 := hf _ hg
  rw [e1] at e2
  rw [e2, RLx_d hn h hP ha hg, RLx_d hn h hP hb ((hP a ha).1 _ hg)]
theorem RL_lay (h : RLx n cm mv) {a b : Nat} (hA : ACT n mv a (rwF n b) mv') : RLx n (up cm a (XM n b)) mv' := RLx_act h hA rfl
theorem RL_swap (hn : n ≤ 7) (h : RLx n cm mv) {a b : Nat} (ha : a < 6) (hb : b < 6) : RLx n (up (up cm a (cm b)) b (cm a)) (sw mv a b n) := fun c hc => by
  by_cases e : c = b
  · subst e
    rw [up_s, h a ha]
    refine mkM_congr (fun p hp => ?_)
    unfold sw
    by_cases q : a * 7 ≤ c * 7 + p ∧ c * 7 + p < a * 7 + n
    · have : a = c := by omega
      subst this
      rw [if_pos q]
      congr 1
      omega
    · rw [if_neg q, if_pos (by omega)]
      congr 1
      omega
  · rw [up_n e]
    by_cases e2 : c = a
    · subst e2
      rw [up_s, h b hb]
      refine mkM_congr (fun p hp => ?_)
      unfold sw
      rw [if_pos (by omega)]
      congr 1
      omega
    · rw [up_n e2, h c hc]
      refine mkM_congr (fun p hp => ?_)
      unfold sw
      rw [if_neg (by omega), if_neg (by omega)]
theorem RL_points {k : Nat} (hk : k ≤ 7) (h : ∀ c p, c < 6 → p < k → mv' (c * 7 + p) = p) : RLx k (fun _ => 1754760) mv' := fun c hc => by
  show 1754760 = _
  rw [e7_M hk]
  exact mkM_congr (fun p hp => (h c p hc hp).symm)
theorem RL_nth (h : RLx n cm mv) {c y : Nat} (hn : n ≤ 7) (hy : Mv n y) (hA : ACT n mv c (d8 y) mv') : RLx n (up cm c y) mv' :=
  RLx_act h hA (hy.ext (mkM_Mv hn hy.2.1) (fun p hp => by rw [mkM_d hn hy.2.1.1 hp]))
theorem RN_RNr (hn : n ≤ 7) (hP : PM n mv) (h : RLx n cm mv) {a b : Nat} (ha : a < 6) (hb : b < 6) {f : Nat → Nat} (hf : Pn n f) : RN n (cm a) (cm b) f ↔ RNr n mv a b f := by
  refine ⟨fun q p hp => ?_, fun q => ⟨hf, fun p hp => ?_⟩⟩
  · rw [← RLx_d hn h hP ha hp, ← RLx_d hn h hP hb (hf.1 p hp)]
    exact q.2 p hp
  · rw [RLx_d hn h hP ha hp, RLx_d hn h hP hb (hf.1 p hp)]
    exact q p hp
theorem RNr_num (h1 : 1 ≤ n) (hP : PM n mv) {a b : Nat} (ha : a < 6) {w : Nat → Nat} (hw : Pn n w) (h : RNr n mv a b w) : RNr n mv a b (rwF n (nuF w 0 n n)) := fun p hp => by
  rw [rw_nu h1 hw _ ((hP a ha).1 p hp), rw_nu h1 hw p hp]
  exact h p hp
theorem LN_ref (h1 : 1 ≤ n) (hn : n ≤ 7) (hP : PM n mv) (h : RLx n cm mv) {a b k : Nat} (ha : a < 6) (hb : b < 6) (hk : k < fc n) (hq : RNr n mv a b (rwF n k)) (hl : ∀ j, j < k → ¬ RNr n mv a b (rwF n j)) : LN n (cm a) (cm b) (XM n k) := by
  have hX := XM_Mv h1 hn k
  have hd : RNr n mv a b (d8 (XM n k)) := fun p hp => by
    rw [XM_d h1 hn ((hP a ha).1 p hp), XM_d h1 hn hp]
    exact hq p hp
  refine ⟨hX, (RN_RNr hn hP h ha hb hX.2.1).mpr hd, fun w hw => ?_⟩
  rw [nu_XM h1 hn hk]
  have h3 := RNr_num h1 hP ha hw.1 ((RN_RNr hn hP h ha hb hw.1).mp hw)
  exact Nat.not_lt.mp (fun e => hl _ e h3)
theorem LN_none (h1 : 1 ≤ n) (hn : n ≤ 7) (hP : PM n mv) (h : RLx n cm mv) {a b : Nat} (ha : a < 6) (hb : b < 6) (hl : ∀ k, k < fc n → ¬ RNr n mv a b (rwF n k)) (w : Nat → Nat) : ¬ RN n (cm a) (cm b) w := fun hw =>
  hl _ (nuF_b w 0 n) (RNr_num h1 hP ha hw.1 ((RN_RNr hn hP h ha hb hw.1).mp hw))
theorem gS_RL (h : RLx n cm mv) (s x : Nat) : gS (mW n mv) s 6 x ↔ gS cm s 6 x := by
  refine ⟨fun ⟨c, h1, h2, h3⟩ => ⟨c, h1, h2, h3.trans (RLx_mW h h1)⟩, fun ⟨c, h1, h2, h3⟩ => ⟨c, h1, h2, h3.trans (RLx_mW h h1).symm⟩⟩
theorem Gg_RL (h : RLx n cm mv) (s x : Nat) : Gg n (gS (mW n mv) s 6) x ↔ Gg n (gS cm s 6) x :=
  ⟨Gg_mono (fun y => (gS_RL h s y).mp), Gg_mono (fun y => (gS_RL h s y).mpr)⟩
theorem cd_RL (h1 : 1 ≤ n) (hn : n ≤ 7) (h : RLx n cm mv) (s : Nat) : cd n (Gg n (gS (mW n mv) s 6)) = cd n (Gg n (gS cm s 6)) := cd_iff h1 hn (fun x _ => Gg_RL h s x)
theorem GK_RL (h1 : 1 ≤ n) (hn : n ≤ 7) (hP : PM n mv) (h : RLx n cm mv) {s a rk y : Nat} (ha : a < 6) (hG : GK n (Gg n (gS (mW n mv) s 6)) (fun j => mv (a * 7 + j)) rk y) : GK n (Gg n (gS cm s 6)) (d8 (cm a)) rk y :=
  GK_iff h1 hn (fun x _ => Gg_RL h s x) (GK_rd h1 hn (fun j hj => (RLx_d hn h hP ha hj).symm) hG)
theorem KX_keep {kn kn' : Int32} {bt : List Int32} (h : KX n mv kn bt) (e : kn' = kn) : KX n mv kn' bt := by
  rw [e]; exact h
end RLS
/-! answers of acts, on both sides the same -/
section VALS
variable {n : Nat} {cm mv mv' : Nat → Nat}
theorem RL_row {c X : Nat} (hL : RLx n (up cm c X) mv') (hc : c < 6) : X = mkM n (fun p => mv' (c * 7 + p)) := by
  have h := hL c hc
  rw [up_s] at h
  exact h
theorem AV {c X : Nat} {F : Nat → Nat} (hn : n ≤ 7) (hP : PM n mv') (hL : RLx n (up cm c X) mv') (hA : ACT n mv c F mv') (hc : c < 6) : nu n X = nuF F 0 n n := by
  rw [RL_row hL hc]
  exact nu_congr (fun p hp => (mkM_d hn (hP c hc).1 hp).trans (hA.1 p hp))
theorem SV {c X : Nat} (hn : n ≤ 7) (hP : PM n mv') (hL : RLx n (up cm c X) mv') (hc : c < 6) : sg n X = sgv (iv mv' (c * 7) n) := by
  rw [RL_row hL hc]
  exact congrArg sgv (iv_congr (f := mv') (fr := c * 7) (m := n) (fun p hp => (mkM_d hn (hP c hc).1 hp).symm) n (Nat.le_refl n)).symm
theorem CV0 (hn : n ≤ 7) (hP : PM n mv) (hL : RLx n cm mv) {a b : Nat} (ha : a < 6) (hb : b < 6) : (∀ p, p < n → mv (a * 7 + p) = mv (b * 7 + p)) ↔ cm a = cm b := by
  refine ⟨fun h => ?_, fun e p hp => ?_⟩
  · rw [hL a ha, hL b hb]
    exact mkM_congr h
  · rw [← RLx_d hn hL hP ha hp, ← RLx_d hn hL hP hb hp, e]
theorem CVa (hn : n ≤ 7) (hP : PM n mv) (hL : RLx n cm mv) {a b : Nat} {v : Int32} (ha : a < 6) (hb : b < 6) (h : (v = nI 0 ∧ ∀ p, p < n → mv (a * 7 + p) = mv (b * 7 + p)) ∨ (v = nI 1 ∧ ¬ ∀ p, p < n → mv (a * 7 + p) = mv (b * 7 + p))) : v = (if cm a = cm b then nI 0 else nI 1) := by
  rcases h with ⟨rfl, h⟩ | ⟨rfl, h⟩
  · rw [if_pos ((CV0 hn hP hL ha hb).mp h)]
  · rw [if_neg (fun e => h ((CV0 hn hP hL ha hb).mpr e))]
theorem CVb (hn : n ≤ 7) (hP : PM n mv) (hL : RLx n cm mv) {a b : Nat} {v : Int32} (ha : a < 6) (hb : b < 6) (h : (v = nI 0 ∧ ∀ p, p < n → mv (a * 7 + p) = mv (b * 7 + p)) ∨ (v = nI 1 ∧ ¬ ∀ p, p < n → mv (a * 7 + p) = mv (b * 7 + p))) : v = (if cm b = cm a then nI 0 else nI 1) := by
  rcases h with ⟨rfl, h⟩ | ⟨rfl, h⟩
  · rw [if_pos ((CV0 hn hP hL ha hb).mp h).symm]
  · rw [if_neg (fun e => h ((CV0 hn hP hL ha hb).mpr e.symm))]
/-! what is asked of moves -/
theorem Mv.seven {x : Nat} (hn : n ≤ 7) (h : Mv n x) : Mv 7 x := ⟨h.1, h.P7 hn, fun p h1 h2 => by omega⟩
theorem QO (hn : n ≤ 7) (hP : PM n mv) (hL : RLx n cm mv) {a : Nat} (ha : a < 6) : oC (cm a) = olc (lF (fun p => mv (a * 7 + p)) n) n := by
  have hM := RLx_M hn hL hP a ha
  refine order_is hn hM (fun p hp => ?_)
  rw [lF_ln hn hM (fun q hq => (RLx_d hn hL hP ha hq).symm) hp]
  exact (lF_ln (Nat.le_refl 7) (hM.seven hn) (fun q _ => rfl) (show p < 7 by omega)).symm
theorem QS (hn : n ≤ 7) (hP : PM n mv) (hL : RLx n cm mv) {a : Nat} (ha : a < 6) : sg n (cm a) = sgv (iv mv (a * 7) n) :=
  congrArg sgv (iv_congr (f := mv) (fr := a * 7) (m := n) (fun p hp => (RLx_d hn hL hP ha hp).symm) n (Nat.le_refl n)).symm
theorem QA (hn : n ≤ 7) (hP : PM n mv) (hL : RLx n cm mv) {a b : Nat} {v : Int32} (ha : a < 6) (hb : b < 6)
    (h : (v = nI 1 ∧ ∀ L, 1 ≤ L → L ≤ n → lo (fun p => mv (a * 7 + p)) n L n / L = lo (fun p => mv (b * 7 + p)) n L n / L) ∨ (v = nI 0 ∧ ¬ ∀ L, 1 ≤ L → L ≤ n → lo (fun p => mv (a * 7 + p)) n L n / L = lo (fun p => mv (b * 7 + p)) n L n / L)) : v = nI (on (LK (cm a) (cm b))) := by
  have hM := RLx_M hn hL hP
  have hk := LK_lo hn (hM a ha) (hM b hb) (fun q hq => (RLx_d hn hL hP ha hq).symm) (fun q hq => (RLx_d hn hL hP hb hq).symm)
  rcases h with ⟨rfl, h⟩ | ⟨rfl, h⟩
  · rw [on_t (hk.mpr h)]
  · rw [on_f (fun e => h (hk.mp e))]
theorem QC (hn : n ≤ 7) (hP : PM n mv) (hL : RLx n cm mv) {a b : Nat} {v : Int32} (ha : a < 6) (hb : b < 6)
    (h : (v = nI 1 ∧ ∀ p, p < n → mv (b * 7 + mv (a * 7 + p)) = mv (a * 7 + mv (b * 7 + p))) ∨ (v = nI 0 ∧ ¬ ∀ p, p < n → mv (b * 7 + mv (a * 7 + p)) = mv (a * 7 + mv (b * 7 + p)))) : v = (if c7 (cm a) (cm b) = c7 (cm b) (cm a) then nI 1 else nI 0) := by
  have hM := RLx_M hn hL hP
  have hd : ∀ {x y p : Nat}, x < 6 → y < 6 → p < n → d8 (c7 (cm x) (cm y)) p = mv (y * 7 + mv (x * 7 + p)) := fun {x y p} hx hy hp => by
    rw [c7_d (by omega), RLx_d hn hL hP hx hp, RLx_d hn hL hP hy ((hP x hx).1 p hp)]
  have hk : (∀ p, p < n → mv (b * 7 + mv (a * 7 + p)) = mv (a * 7 + mv (b * 7 + p))) ↔ c7 (cm a) (cm b) = c7 (cm b) (cm a) := by
    refine ⟨fun h => (c7_Mv hn (hM a ha) (hM b hb)).ext (c7_Mv hn (hM b hb) (hM a ha)) (fun p hp => ?_), fun e p hp => ?_⟩
    · rw [hd ha hb hp, hd hb ha hp]; exact h p hp
    · rw [← hd ha hb hp, ← hd hb ha hp, e]
  rcases h with ⟨rfl, h⟩ | ⟨rfl, h⟩
  · rw [if_pos (hk.mp h)]
  · rw [if_neg (fun e => h (hk.mpr e))]
theorem hs_v {a : Nat} {x y z : Int32} (h : a < 3) : (if nI a = nI 0 then x else if nI a = nI 1 then y else z) = (if a = 0 then x else if a = 1 then y else z) := by
  match a, h with
  | 0, _ => rfl
  | 1, _ => rfl
  | 2, _ => rfl
end VALS
/-! what is asked of groups: the reference's group is the house's -/
section GRPS
variable {n : Nat} {cm mv : Nat → Nat}
theorem QG_size (hn1 : 2 ≤ n) (hn : n ≤ 7) (hL : RLx n cm mv) {s : Nat} {v : Int32} (hv : v = nI (cd n (Gg n (gS (mW n mv) s 6)))) : v = nI (cd n (Gg n (gS cm s 6))) :=
  hv.trans (congrArg nI (cd_RL (by omega) hn hL s))
theorem QG_reach (hn1 : 2 ≤ n) (hn : n ≤ 7) (hP : PM n mv) (hL : RLx n cm mv) {s b c : Nat} {v : Int32} (hb : b < 6) (hc : c < n) (hv : v = nI (sBv (RP n (Gg n (gS (mW n mv) s 6)) (fun j => mv (b * 7 + j)) c) n)) : v = nI (sBv (RP n (Gg n (gS cm s 6)) (d8 (cm b)) c) n) := by
  have e : ∀ j, j < n → mv (b * 7 + j) = d8 (cm b) j := fun j hj => (RLx_d hn hL hP hb hj).symm
  refine hv.trans (congrArg nI (sBv_congr (fun w _ => ⟨fun ⟨x, h1, h2, h3, h4⟩ => ⟨x, h1, (Gg_RL hL s x).mp h2, fun j hj => ?_, ?_⟩, fun ⟨x, h1, h2, h3, h4⟩ => ⟨x, h1, (Gg_RL hL s x).mpr h2, fun j hj => ?_, ?_⟩⟩)))
  · have this : d8 x (mv (b * 7 + j)) = mv (b * 7 + j) := h3 j hj
    rw [e j (by omega)] at this
    exact this
  · rw [← e c hc]; exact h4
  · show d8 x (mv (b * 7 + j)) = mv (b * 7 + j)
    rw [e j (by omega)]; exact h3 j hj
  · show d8 x (mv (b * 7 + c)) = w
    rw [e c hc]; exact h4
theorem QG_all (hL : RLx n cm mv) {s e : Nat} : (∀ c, c < 6 → s.testBit c = true → Gg n (gS (mW n mv) e 6) (mW n mv c)) ↔ (∀ c, c < 6 → s.testBit c = true → Gg n (gS cm e 6) (cm c)) :=
  ⟨fun h c hc hs => by rw [← RLx_mW hL hc]; exact (Gg_RL hL e _).mp (h c hc hs), fun h c hc hs => by rw [RLx_mW hL hc]; exact (Gg_RL hL e _).mpr (h c hc hs)⟩
theorem QG_part (hL : RLx n cm mv) {s e : Nat} {v : Int32} (hv : (v = nI 0 ∧ ¬ ∀ c, c < 6 → s.testBit c = true → Gg n (gS (mW n mv) e 6) (mW n mv c)) ∨ (v = nI 1 ∧ ∀ c, c < 6 → s.testBit c = true → Gg n (gS (mW n mv) e 6) (mW n mv c))) : v = nI (on (∀ c, c < 6 → s.testBit c = true → Gg n (gS cm e 6) (cm c))) := by
  rcases hv with ⟨rfl, h⟩ | ⟨rfl, h⟩
  · rw [on_f (fun q => h ((QG_all hL).mpr q))]
  · rw [on_t ((QG_all hL).mp h)]
theorem QG_shares (hn1 : 2 ≤ n) (hn : n ≤ 7) (hL : RLx n cm mv) {s e : Nat} {v : Int32} (hv : (v = (-9) ∧ ¬ ∀ c, c < 6 → s.testBit c = true → Gg n (gS (mW n mv) e 6) (mW n mv c)) ∨ ((∀ c, c < 6 → s.testBit c = true → Gg n (gS (mW n mv) e 6) (mW n mv c)) ∧ v = nI (cd n (Gg n (gS (mW n mv) e 6)) / cd n (Gg n (gS (mW n mv) s 6))))) :
    v = ppI (∀ c, c < 6 → s.testBit c = true → Gg n (gS cm e 6) (cm c)) (nI (cd n (Gg n (gS cm e 6)) / cd n (Gg n (gS cm s 6)))) (-9) := by
  rcases hv with ⟨hv, h⟩ | ⟨h, hv⟩
  · rw [ppI_f (fun q => h ((QG_all hL).mpr q))]; exact hv
  · rw [ppI_t ((QG_all hL).mp h), ← cd_RL (by omega) hn hL e, ← cd_RL (by omega) hn hL s]; exact hv
theorem QG_cd (hn1 : 2 ≤ n) (hn : n ≤ 7) (hL : RLx n cm mv) {s : Nat} {P : Nat → Prop} : cd n (fun x => Gg n (gS (mW n mv) s 6) x ∧ P x) = cd n (fun x => Gg n (gS cm s 6) x ∧ P x) :=
  cd_iff (by omega) hn (fun x _ => and_congr (Gg_RL hL s x) Iff.rfl)
theorem QG_rank (hn1 : 2 ≤ n) (hn : n ≤ 7) (hP : PM n mv) (hL : RLx n cm mv) {s b c : Nat} {v : Int32} (hb : b < 6) (hc : c < 6)
    (hv : (v = (-1) ∧ ¬ Gg n (gS (mW n mv) s 6) (mW n mv c)) ∨ (Gg n (gS (mW n mv) s 6) (mW n mv c) ∧ v = nI (cd n (fun x => Gg n (gS (mW n mv) s 6) x ∧ LSr n (fun j => mv (b * 7 + j)) (d8 x) (d8 (mW n mv c)))))) :
    v = rkI (Gg n (gS cm s 6) (cm c)) (rkS n (Gg n (gS cm s 6)) (d8 (cm b)) (cm c) n) := by
  have e : ∀ j, j < n → mv (b * 7 + j) = d8 (cm b) j := fun j hj => (RLx_d hn hL hP hb hj).symm
  have hcd : cd n (fun x => Gg n (gS (mW n mv) s 6) x ∧ LSr n (fun j => mv (b * 7 + j)) (d8 x) (d8 (mW n mv c))) = rkS n (Gg n (gS cm s 6)) (d8 (cm b)) (cm c) n := by
    rw [rkS_is (by omega) hn, RLx_mW hL hc]
    refine cd_iff (by omega) hn (fun x _ => and_congr (Gg_RL hL s x) ⟨fun ⟨l, hl, a, q⟩ => ⟨l, hl, fun j hj => ?_, ?_⟩, fun ⟨l, hl, a, q⟩ => ⟨l, hl, fun j hj => ?_, ?_⟩⟩)
    · have this : d8 x (mv (b * 7 + j)) = d8 (cm c) (mv (b * 7 + j)) := a j hj
      rw [e j (by omega)] at this
      exact this
    · have q : d8 x (mv (b * 7 + l)) < d8 (cm c) (mv (b * 7 + l)) := q
      rw [e l hl] at q
      exact q
    · show d8 x (mv (b * 7 + j)) = d8 (cm c) (mv (b * 7 + j))
      rw [e j (by omega)]; exact a j hj
    · show d8 x (mv (b * 7 + l)) < d8 (cm c) (mv (b * 7 + l))
      rw [e l hl]; exact q
  have hg : Gg n (gS (mW n mv) s 6) (mW n mv c) ↔ Gg n (gS cm s 6) (cm c) := by
    rw [RLx_mW hL hc]
    exact Gg_RL hL s _
  unfold rkI
  rcases hv with ⟨hv, h⟩ | ⟨h, hv⟩
  · exact hv.trans (@if_neg _ (Classical.propDecidable _) (fun q => h (hg.mpr q)) _ _ _).symm
  · rw [hcd] at hv
    exact hv.trans (@if_pos _ (Classical.propDecidable _) (hg.mp h) _ _ _).symm
theorem QG_isIn (hL : RLx n cm mv) {s b : Nat} {v : Int32} (hb : b < 6) (hv : (v = nI 0 ∧ ¬ Gg n (gS (mW n mv) s 6) (mW n mv b)) ∨ (v = nI 1 ∧ Gg n (gS (mW n mv) s 6) (mW n mv b))) : v = nI (on (Gg n (gS cm s 6) (cm b))) := by
  rw [RLx_mW hL hb] at hv
  rcases hv with ⟨rfl, h⟩ | ⟨rfl, h⟩
  · rw [on_f (fun q => h ((Gg_RL hL s _).mpr q))]
  · rw [on_t ((Gg_RL hL s _).mp h)]
theorem lsK_iff {P Q : Nat → Prop} : ∀ k i, (∀ j, P j ↔ Q j) → lsK P k i = lsK Q k i := fun k i h => by
  rw [show P = Q from funext (fun j => propext (h j))]
theorem QG_share (hn1 : 2 ≤ n) (hn : n ≤ 7) (hP : PM n mv) (hL : RLx n cm mv) {s b : Nat} {v : Int32} (hb : b < 6) (hv : v = nI (lsN n (Gg n (gS (mW n mv) s 6)) (mW n mv b))) : v = nI (lsN n (Gg n (gS cm s 6)) (cm b)) := by
  refine hv.trans (congrArg nI ?_)
  rw [RLx_mW hL hb]
  unfold lsN
  exact lsK_iff _ _ (fun k => ⟨fun ⟨x, a, q, e⟩ => ⟨x, a, (Gg_RL hL s x).mp q, e⟩, fun ⟨x, a, q, e⟩ => ⟨x, a, (Gg_RL hL s x).mpr q, e⟩⟩)
end GRPS
end
