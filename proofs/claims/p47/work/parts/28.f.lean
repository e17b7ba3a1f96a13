section
/-! what is asked of the reference's groups, exactly -/
theorem isN_2 {a : Int32} (h1 : ¬ a < 0) (h2 : a ≤ nI 1) : isN a 2 := by
  obtain ⟨k, hk, rfl⟩ := nI_nn (Int32.not_lt.mp h1)
  exact ⟨k, by have := (nI_leI hk (by omega)).mp h2; omega, rfl⟩
set_option maxRecDepth 100000 in
set_option maxHeartbeats 4000000 in
theorem c_X8_sizeOf_atx {X : jX} (hs : X.1.stackTraces = false) {d : Nat} (hd : 4 ≤ d) {n : Nat} {mv rw nx : Nat → Nat} {b : Nat} {bt : List Int32} {kn en dn rf kk th : Int32} {w : List jC} (hR : RM n mv rw nx b bt kn en dn rf kk th w) (hn1 : 2 ≤ n) (hn2 : n ≤ 7) (gm : ∀ i, mv i < 7) (gr : ∀ i, rw i < 7) (gx : ∀ i, nx i < 7) (s : Nat) (hy0 : s < 64) (hy1 : PM n mv) (hy2 : KX n mv kn bt en) {kc ks : Nat} (hkc : 13 ≤ kc) (hks : 2054 ≤ ks) : jMet X mX8_sizeOf d kc ks [.ref 19, .int (nI s)] w (pI (fun v => v = nI (cd n (Gg n (gS (mW n mv) s 6)))) (fun w' => ∃ (rw' : Nat → Nat), ∃ (nx' : Nat → Nat), ∃ (b' : Nat), ∃ (bt' : List Int32), ∃ (kn' : Int32), ∃ (en' : Int32), RM n mv rw' nx' b' bt' kn' en' dn rf kk th w' ∧ FR b b' w w' ∧ (∀ i, rw' i < 7) ∧ (∀ i, nx' i < 7) ∧ kn' = nI s ∧ BX n mv s bt' en')) := by
  refine jMet_of hs (by decide +kernel) (Nat.le_of_ble_eq_true rfl) (L := [some (.ref 19), some (.int (nI s))]) rfl ?_
  have hdm : 3 ≤ d - 1 := by omega
  have hdp : d - 1 + 1 ≤ d := by omega
  have hfc := fc_7 hn2
  have hfp := fc_pos n
  obtain ⟨h19, h20, h21, h22, hbb, hbl, hb3⟩ := hR
  have hF : FR b b w w := FR.rf
  refine J_aload_n (pc := 0) dX8_sizeOf_0 rfl rfl rfl ?_
  refine J_iload_n (pc := 1) dX8_sizeOf_1 rfl rfl ?_
  refine J_callV (pc := 2) (M := mX8_sizeOf) (as := [.int (nI s)]) dX8_sizeOf_2 fw_X8_group fl_X8_99 fm_X8_group fe_X8_group h19 (by decide) rfl rfl rfl (c_X8_group_ate hs (d := d - 1) (Nat.le_trans (by decide) hdm) (w := w) (n := n) (mv := mv) (rw := rw) (nx := nx) (b := b) (bt := bt) (kn := kn) (en := en) (dn := dn) (rf := rf) (kk := kk) (th := th) ⟨h19, h20, h21, h22, hbb, hbl, hb3⟩ hn1 hn2 gm gr gx s (by first | assumption | omega) (by first | assumption | omega) (by first | assumption | omega) (kc := 13) (ks := 2054) (Nat.le_refl _) (Nat.le_refl _)) hdp (by omega) (by omega) (st := []) (Nat.le_of_ble_eq_true rfl) rfl (kr_V fun w1 hw1 => ?_) kx_V
  obtain ⟨rw1, nx1, b1, bt1, kn1, en1, hR1, hFc1, hgrw1, hgnx1, hp1_0, hp1_1⟩ := hw1
  obtain ⟨h19_1, h20_1, h21_1, h22_1, hbb_1, hbl_1, hb3_1⟩ := hR1
  have qd1 := hFc1.2.1
  have hF1 := hF.tr hFc1
  have hBXE := hp1_1; have hBX := hBXE.1
  refine J_aload_n (pc := 5) dX8_sizeOf_5 rfl rfl rfl ?_
  refine J_callV0 (pc := 6) (M := mX8_sizeOf) (as := []) dX8_sizeOf_6 fw_X8_sizeNow fl_X8_102 fm_X8_sizeNow fe_X8_sizeNow h19_1 (by decide) rfl rfl rfl (c_X8_sizeNow hs (d := d - 1) (Nat.le_trans (by decide) hdm) (w := w1) (n := n) (mv := mv) (rw := rw1) (nx := nx1) (b := b1) (bt := bt1) (kn := kn1) (en := en1) (dn := dn) (rf := rf) (kk := kk) (th := th) ⟨h19_1, h20_1, h21_1, h22_1, hbb_1, hbl_1, hb3_1⟩ hn1 hn2 gm hgrw1 hgnx1  (kc := 0) (ks := 0)) hdp (st := []) (Nat.le_of_ble_eq_true rfl) rfl (kr_P fun v2 hv2 => ?_) kx_I
  subst hv2
  exact J_iret (pc := 9) dX8_sizeOf_9 rfl ⟨(congrArg nI (by exact BX_cd hn2 hBX)), ⟨rw1, nx1, b1, bt1, kn1, en1, ⟨h19_1, h20_1, h21_1, h22_1, hbb_1, hbl_1, hb3_1⟩, hF1, hgrw1, hgnx1, (by first | rfl | assumption), (by first | assumption | exact hBX)⟩⟩
set_option maxRecDepth 100000 in
set_option maxHeartbeats 4000000 in
theorem c_X8_reachNow_atx {X : jX} (hs : X.1.stackTraces = false) {d : Nat} (hd : 4 ≤ d) {n : Nat} {mv rw nx : Nat → Nat} {b : Nat} {bt : List Int32} {kn en dn rf kk th : Int32} {w : List jC} (hR : RM n mv rw nx b bt kn en dn rf kk th w) (hn1 : 2 ≤ n) (hn2 : n ≤ 7) (gm : ∀ i, mv i < 7) (gr : ∀ i, rw i < 7) (gx : ∀ i, nx i < 7) (s : Nat) (a : Nat) (c : Nat) (hy0 : s < 64) (hy1 : PM n mv) (hy2 : KX n mv kn bt en) (hy3 : a < 6) (hy4 : c < n) {kc ks : Nat} (hkc : 13 ≤ kc) (hks : 2054 ≤ ks) : jMet X mX8_reachNow d kc ks [.ref 19, .int (nI s), .int (nI a), .int (nI c)] w (pI (fun v => v = nI (sBv (RP n (Gg n (gS (mW n mv) s 6)) (fun j => mv (a * 7 + j)) c) n)) (fun w' => ∃ (rw' : Nat → Nat), ∃ (nx' : Nat → Nat), ∃ (b' : Nat), ∃ (bt' : List Int32), ∃ (kn' : Int32), ∃ (en' : Int32), RM n mv rw' nx' b' bt' kn' en' dn rf kk th w' ∧ FR b b' w w' ∧ (∀ i, rw' i < 7) ∧ (∀ i, nx' i < 7) ∧ kn' = nI s ∧ BX n mv s bt' en')) := by
  refine jMet_of hs (by decide +kernel) (Nat.le_of_ble_eq_true rfl) (L := [some (.ref 19), some (.int (nI s)), some (.int (nI a)), some (.int (nI c)), none, none, none, none]) rfl ?_
  have hdm : 3 ≤ d - 1 := by omega
  have hdp : d - 1 + 1 ≤ d := by omega
  have hfc := fc_7 hn2
  have hfp := fc_pos n
  obtain ⟨h19, h20, h21, h22, hbb, hbl, hb3⟩ := hR
  have hF : FR b b w w := FR.rf
  refine J_aload_n (pc := 0) dX8_reachNow_0 rfl rfl rfl ?_
  refine J_iload_n (pc := 1) dX8_reachNow_1 rfl rfl ?_
  refine J_callV (pc := 2) (M := mX8_reachNow) (as := [.int (nI s)]) dX8_reachNow_2 fw_X8_group fl_X8_99 fm_X8_group fe_X8_group h19 (by decide) rfl rfl rfl (c_X8_group_ate hs (d := d - 1) (Nat.le_trans (by decide) hdm) (w := w) (n := n) (mv := mv) (rw := rw) (nx := nx) (b := b) (bt := bt) (kn := kn) (en := en) (dn := dn) (rf := rf) (kk := kk) (th := th) ⟨h19, h20, h21, h22, hbb, hbl, hb3⟩ hn1 hn2 gm gr gx s (by first | assumption | omega) (by first | assumption | omega) (by first | assumption | omega) (kc := 13) (ks := 2054) (Nat.le_refl _) (Nat.le_refl _)) hdp (by omega) (by omega) (st := []) (Nat.le_of_ble_eq_true rfl) rfl (kr_V fun w1 hw1 => ?_) kx_V
  obtain ⟨rw1, nx1, b1, bt1, kn1, en1, hR1, hFc1, hgrw1, hgnx1, hp1_0, hp1_1⟩ := hw1
  obtain ⟨h19_1, h20_1, h21_1, h22_1, hbb_1, hbl_1, hb3_1⟩ := hR1
  have qd1 := hFc1.2.1
  have hF1 := hF.tr hFc1
  have hBXE := hp1_1; have hBX := hBXE.1
  refine J_iconst (pc := 5) (v := nI 0) dX8_reachNow_5 (by decide) ?_
  refine J_istore (pc := 6) dX8_reachNow_6 (by decide) rfl ?_
  show J X mX8_reachNow d (kc - 13) (ks - 2054) 8 [some (.ref 19), some (.int (nI s)), some (.int (nI a)), some (.int (nI c)), some (.int (nI 0)), none, none, none] [] w1 _
  refine J_aload_n (pc := 8) dX8_reachNow_8 rfl rfl rfl ?_
  refine J_iconst (pc := 9) (v := nI 0) dX8_reachNow_9 (by decide) ?_
  refine J_callV0 (pc := 10) (M := mX8_reachNow) (as := [.int (nI 0)]) dX8_reachNow_10 fw_X8_from fl_X8_137 fm_X8_from fe_X8_from h19_1 (by decide) rfl rfl rfl (c_X8_from hs (d := d - 1) (Nat.le_trans (by decide) hdm) (w := w1) (n := n) (mv := mv) (rw := rw1) (nx := nx1) (b := b1) (bt := bt1) (kn := kn1) (en := en1) (dn := dn) (rf := rf) (kk := kk) (th := th) ⟨h19_1, h20_1, h21_1, h22_1, hbb_1, hbl_1, hb3_1⟩ hn1 hn2 gm hgrw1 hgnx1 0 (by first | assumption | omega) (kc := 0) (ks := 0)) hdp (st := []) (Nat.le_of_ble_eq_true rfl) rfl (kr_P fun v2 hv2 => ?_) kx_I
  rcases hv2 with ⟨rfl, hk2_0⟩ | ⟨q2, rfl, hk2_0, hk2_1, hk2_2, hk2_3⟩
  · refine J_istore (pc := 13) dX8_reachNow_13 (by decide) rfl ?_
    show J X mX8_reachNow d (kc - 13) (ks - 2054) 15 [some (.ref 19), some (.int (nI s)), some (.int (nI a)), some (.int (nI c)), some (.int (nI 0)), some (.int (-1)), none, none] [] w1 _
    have lp15_3 : ∀ (fuel : Nat) (w4 : List jC) (rw_15 : Nat → Nat) (z4 : Nat) (c5 : Nat), (RM n mv rw_15 nx1 b1 bt1 kn1 en1 dn rf kk th w4) → (FR b b1 w w4) → (∀ i, rw_15 i < 7) → (c5 ≤ fc n) → (0 < c5 → bitL bt1 (c5 - 1) = true) → (RBt n bt1 (fun j => mv (a * 7 + j)) c z4 (KK (fc n) c5)) → (mu (fc n) c5 < fuel) → J X mX8_reachNow d (kc - 13) (ks - 2054) 15 [some (.ref 19), some (.int (nI s)), some (.int (nI a)), some (.int (nI c)), some (.int (nI z4)), some (.int (nI c5 + Int32.ofInt (-1))), none, none] [] w4 (pI (fun v => v = nI (sBv (RP n (Gg n (gS (mW n mv) s 6)) (fun j => mv (a * 7 + j)) c) n)) (fun w' => ∃ (rw' : Nat → Nat), ∃ (nx' : Nat → Nat), ∃ (b' : Nat), ∃ (bt' : List Int32), ∃ (kn' : Int32), ∃ (en' : Int32), RM n mv rw' nx' b' bt' kn' en' dn rf kk th w' ∧ FR b b' w w' ∧ (∀ i, rw' i < 7) ∧ (∀ i, nx' i < 7) ∧ kn' = nI s ∧ BX n mv s bt' en')) := by
      intro fuellp15_3
      induction fuellp15_3 with
      | zero => intros; omega
      | succ fuellp15_3 ihlp15_3 =>
        intro w4 rw_15 z4 c5 hR5 hF6 gr7 hv15_0 hv15_1 hv15_2 hf8
        obtain ⟨h19_9, h20_9, h21_9, h22_9, hb_9, hbl_9, hb3_9⟩ := hR5
        refine J_iload (pc := 15) dX8_reachNow_15 rfl ?_
        refine J_if_ltM (pc := 17) (tgt := 116) dX8_reachNow_17 (by decide) (by omega) (fun ht10 => ?_) (fun hf11 => ?_)
        · refine J_iload (pc := 116) dX8_reachNow_116 rfl ?_
          exact J_iret (pc := 118) dX8_reachNow_118 rfl ⟨(congrArg nI (by exact RBt_end (by omega) hn2 hBX (fun j hj => (hy1 a hy3).1 j hj) hy4 (by have h := hv15_2; rw [show c5 = 0 by omega, KK_0] at h; exact h))), ⟨rw_15, nx1, b1, bt1, kn1, en1, ⟨h19_9, h20_9, h21_9, h22_9, hb_9, hbl_9, hb3_9⟩, hF6, gr7, hgnx1, (by first | rfl | assumption), (by first | assumption | exact hBX)⟩⟩
        · rw [nI_m1 hf11]
          have hb15 := hv15_1 (by omega)
          have hprev : RBt n bt1 (fun j => mv (a * 7 + j)) c z4 (c5 - 1) := by
            have h := hv15_2
            rw [KK_p (by omega)] at h
            exact h
          have hcn := (hy1 a hy3).1 c hy4
          refine J_aload_n (pc := 20) dX8_reachNow_20 rfl rfl rfl ?_
          refine J_iload (pc := 21) dX8_reachNow_21 rfl ?_
          refine J_aload_n (pc := 23) dX8_reachNow_23 rfl rfl rfl ?_
          refine J_get (pc := 24) (k := 2) dX8_reachNow_24 kC9 (by decide) ff_X8_17 h19_9 rfl ?_
          refine J_callV0 (pc := 27) (M := mX8_reachNow) (as := [.int (nI (c5 - 1)), .ref 21]) dX8_reachNow_27 fw_X8_rowOf fl_X8_78 fm_X8_rowOf fe_X8_rowOf h19_9 (by decide) rfl rfl rfl (c_X8_rowOf hs (d := d - 1) (Nat.le_trans (by decide) hdm) (w := w4) (n := n) (mv := mv) (rw := rw_15) (nx := nx1) (b := b1) (bt := bt1) (kn := kn1) (en := en1) (dn := dn) (rf := rf) (kk := kk) (th := th) ⟨h19_9, h20_9, h21_9, h22_9, hb_9, hbl_9, hb3_9⟩ hn1 hn2 gm gr7 hgnx1 (c5 - 1) (by first | assumption | omega) (kc := 0) (ks := 0)) hdp (st := []) (Nat.le_of_ble_eq_true rfl) rfl (kr_V fun w12 hw12 => ?_) kx_V
          obtain ⟨rw12, hR12, hFc12, hgrw12, hp12_0⟩ := hw12
          obtain ⟨h19_12, h20_12, h21_12, h22_12, hbb_12, hbl_12, hb3_12⟩ := hR12
          have hF12 := hF6.tr hFc12
          have hrow := hp12_0
          refine J_iconst (pc := 30) (v := nI 1) dX8_reachNow_30 (by decide) ?_
          refine J_istore (pc := 31) dX8_reachNow_31 (by decide) rfl ?_
          show J X mX8_reachNow d (kc - 13) (ks - 2054) 33 [some (.ref 19), some (.int (nI s)), some (.int (nI a)), some (.int (nI c)), some (.int (nI z4)), some (.int (nI (c5 - 1))), some (.int (nI 1)), none] [] w12 _
          refine J_iconst (pc := 33) (v := nI 0) dX8_reachNow_33 (by decide) ?_
          refine J_istore (pc := 34) dX8_reachNow_34 (by decide) rfl ?_
          show J X mX8_reachNow d (kc - 13) (ks - 2054) 36 [some (.ref 19), some (.int (nI s)), some (.int (nI a)), some (.int (nI c)), some (.int (nI z4)), some (.int (nI (c5 - 1))), some (.int (nI 1)), some (.int (nI 0))] [] w12 _
          have lp36_13 : ∀ (fuel : Nat) (y6 : Nat) (c7 : Nat), (y6 < 2) → (c7 ≤ c) → (STt rw12 (fun j => mv (a * 7 + j)) c c7 y6) → (c - c7 < fuel) → J X mX8_reachNow d (kc - 13) (ks - 2054) 36 [some (.ref 19), some (.int (nI s)), some (.int (nI a)), some (.int (nI c)), some (.int (nI z4)), some (.int (nI (c5 - 1))), some (.int (nI y6)), some (.int (nI c7))] [] w12 (pI (fun v => v = nI (sBv (RP n (Gg n (gS (mW n mv) s 6)) (fun j => mv (a * 7 + j)) c) n)) (fun w' => ∃ (rw' : Nat → Nat), ∃ (nx' : Nat → Nat), ∃ (b' : Nat), ∃ (bt' : List Int32), ∃ (kn' : Int32), ∃ (en' : Int32), RM n mv rw' nx' b' bt' kn' en' dn rf kk th w' ∧ FR b b' w w' ∧ (∀ i, rw' i < 7) ∧ (∀ i, nx' i < 7) ∧ kn' = nI s ∧ BX n mv s bt' en')) := by
            intro fuellp36_13
            induction fuellp36_13 with
            | zero => intros; omega
            | succ fuellp36_13 ihlp36_13 =>
              intro y6 c7 hv36_0 hv36_1 hv36_2 hf14
              refine J_iload (pc := 36) dX8_reachNow_36 rfl ?_
              refine J_iload_n (pc := 38) dX8_reachNow_38 rfl rfl ?_
              refine J_icmp_geN (pc := 39) (tgt := 80) dX8_reachNow_39 (by decide) (by omega) (by omega) (fun ht15 => ?_) (fun hf16 => ?_)
              · have hgg : ∀ j, j < c → rw12 ((fun j => mv (a * 7 + j)) j) = rwF n (c5 - 1) ((fun j => mv (a * 7 + j)) j) := fun j hj => hrow _ ((hy1 a hy3).1 j (by omega))
                refine J_iload (pc := 80) dX8_reachNow_80 rfl ?_
                refine J_if_eqN (pc := 82) (tgt := 103) dX8_reachNow_82 (by decide) (by omega) (fun ht17 => ?_) (fun hf18 => ?_)
                · have hst : RBt n bt1 (fun j => mv (a * 7 + j)) c z4 (c5 - 1 + 1) := by first | exact RBt_s hprev hb15 hyes (hrow _ hcn) (by omega) | exact RBt_n hprev (STt_f (rd := (fun j => mv (a * 7 + j))) hv36_2 (by assumption) hgg)
                  refine J_aload_n (pc := 103) dX8_reachNow_103 rfl rfl rfl ?_
                  refine J_iload (pc := 104) dX8_reachNow_104 rfl ?_
                  refine J_iconst (pc := 106) (v := nI 1) dX8_reachNow_106 (by decide) ?_
                  refine J_iaddN (pc := 107) dX8_reachNow_107 ?_
                  refine J_callV0 (pc := 108) (M := mX8_reachNow) (as := [.int (nI ((c5 - 1) + 1))]) dX8_reachNow_108 fw_X8_from fl_X8_137 fm_X8_from fe_X8_from h19_12 (by decide) rfl rfl rfl (c_X8_from hs (d := d - 1) (Nat.le_trans (by decide) hdm) (w := w12) (n := n) (mv := mv) (rw := rw12) (nx := nx1) (b := b1) (bt := bt1) (kn := kn1) (en := en1) (dn := dn) (rf := rf) (kk := kk) (th := th) ⟨h19_12, h20_12, h21_12, h22_12, hbb_12, hbl_12, hb3_12⟩ hn1 hn2 gm hgrw12 hgnx1 ((c5 - 1) + 1) (by first | assumption | omega) (kc := 0) (ks := 0)) hdp (st := []) (Nat.le_of_ble_eq_true rfl) rfl (kr_P fun v19 hv19 => ?_) kx_I
                  rcases hv19 with ⟨rfl, hk19_0⟩ | ⟨q19, rfl, hk19_0, hk19_1, hk19_2, hk19_3⟩
                  · refine J_istore (pc := 111) dX8_reachNow_111 (by decide) rfl ?_
                    show J X mX8_reachNow d (kc - 13) (ks - 2054) 113 [some (.ref 19), some (.int (nI s)), some (.int (nI a)), some (.int (nI c)), some (.int (nI z4)), some (.int (-1)), some (.int (nI y6)), some (.int (nI c7))] [] w12 _
                    refine J_goto (pc := 113) (tgt := 15) dX8_reachNow_113 (by decide) ?_
                    exact J_sub (L' := [some (.ref 19), some (.int (nI s)), some (.int (nI a)), some (.int (nI c)), some (.int (nI z4)), some (.int (nI 0 + Int32.ofInt (-1))), none, none]) ⟨rfl, ⟨rfl, ⟨rfl, ⟨rfl, ⟨rfl, ⟨(congrArg (fun z => some (Value.int z)) (by decide : (-1 : Int32) = nI 0 + Int32.ofInt (-1))), trivial⟩⟩⟩⟩⟩⟩ (ihlp15_3 w12 rw12 z4 0 ⟨h19_12, h20_12, h21_12, h22_12, hbb_12, hbl_12, hb3_12⟩ hF12 hgrw12 (by first | assumption | omega) (by intro h; first | (rw [Nat.add_sub_cancel]; assumption) | omega) (by first | exact KI_0 RBt_f hst (by omega) (by assumption) | exact KI_1 RBt_f hst (by omega) (by assumption)) (by exact mu_dec (by assumption) (by omega) (by omega) (by omega)))
                  · refine J_istore (pc := 111) dX8_reachNow_111 (by decide) rfl ?_
                    show J X mX8_reachNow d (kc - 13) (ks - 2054) 113 [some (.ref 19), some (.int (nI s)), some (.int (nI a)), some (.int (nI c)), some (.int (nI z4)), some (.int (nI q19)), some (.int (nI y6)), some (.int (nI c7))] [] w12 _
                    refine J_goto (pc := 113) (tgt := 15) dX8_reachNow_113 (by decide) ?_
                    exact J_sub (L' := [some (.ref 19), some (.int (nI s)), some (.int (nI a)), some (.int (nI c)), some (.int (nI z4)), some (.int (nI (q19 + 1) + Int32.ofInt (-1))), none, none]) ⟨rfl, ⟨rfl, ⟨rfl, ⟨rfl, ⟨rfl, ⟨(congrArg (fun z => some (Value.int z)) (nI_n1 q19)), trivial⟩⟩⟩⟩⟩⟩ (ihlp15_3 w12 rw12 z4 (q19 + 1) ⟨h19_12, h20_12, h21_12, h22_12, hbb_12, hbl_12, hb3_12⟩ hF12 hgrw12 (by first | assumption | omega) (by intro h; first | (rw [Nat.add_sub_cancel]; assumption) | omega) (by first | exact KI_0 RBt_f hst (by omega) (by assumption) | exact KI_1 RBt_f hst (by omega) (by assumption)) (by exact mu_dec (by assumption) (by omega) (by omega) (by omega)))
                · have hyes := STt_y (rd := (fun j => mv (a * 7 + j))) (g := rwF n (c5 - 1)) hv36_2 (by omega) (by assumption) hgg
                  have hrv : rw12 (mv (a * 7 + c)) < n := by rw [hrow _ hcn]; exact (rwF_Pn (by omega)).1 _ hcn
                  have hz4 := hprev.1
                  have hp2 : 2 ^ rw12 (mv (a * 7 + c)) < 2 ^ 31 := Nat.pow_lt_pow_right (by decide) (by omega)
                  refine J_iload (pc := 85) dX8_reachNow_85 rfl ?_
                  refine J_iconst (pc := 87) (v := nI 1) dX8_reachNow_87 (by decide) ?_
                  refine J_aload_n (pc := 88) dX8_reachNow_88 rfl rfl rfl ?_
                  refine J_get (pc := 89) (k := 2) dX8_reachNow_89 kC9 (by decide) ff_X8_17 h19_12 rfl ?_
                  refine J_aload_n (pc := 92) dX8_reachNow_92 rfl rfl rfl ?_
                  refine J_iload_n (pc := 93) dX8_reachNow_93 rfl rfl ?_
                  refine J_iload_n (pc := 94) dX8_reachNow_94 rfl rfl ?_
                  refine J_callV0 (pc := 95) (M := mX8_reachNow) (as := [.int (nI a), .int (nI c)]) dX8_reachNow_95 fw_X8_at fl_X8_82 fm_X8_at fe_X8_at h19_12 (by decide) rfl rfl rfl (c_X8_at hs (d := d - 1) (Nat.le_trans (by decide) hdm) (w := w12) (n := n) (mv := mv) (rw := rw12) (nx := nx1) (b := b1) (bt := bt1) (kn := kn1) (en := en1) (dn := dn) (rf := rf) (kk := kk) (th := th) ⟨h19_12, h20_12, h21_12, h22_12, hbb_12, hbl_12, hb3_12⟩ hn1 hn2 gm hgrw12 hgnx1 a c (by first | assumption | omega) (by first | assumption | omega) (kc := 0) (ks := 0)) hdp (st := [.ref 21, .int (nI 1), .int (nI z4)]) (Nat.le_of_ble_eq_true rfl) rfl (kr_P fun v20 hv20 => ?_) kx_I
                  subst hv20
                  have hq21 := gm (a * 7 + c)
                  refine J_ialdF (pc := 98) dX8_reachNow_98 h21_12 (by omega) (by decide) ?_
                  have hq22 := hgrw12 (mv (a * 7 + c))
                  refine J_shlOne (pc := 99) dX8_reachNow_99 (by omega) ?_
                  refine J_iorN (pc := 100) dX8_reachNow_100 (by omega) (by omega) ?_
                  refine J_istore (pc := 101) dX8_reachNow_101 (by decide) rfl ?_
                  show J X mX8_reachNow d (kc - 13) (ks - 2054) 103 [some (.ref 19), some (.int (nI s)), some (.int (nI a)), some (.int (nI c)), some (.int (nI (z4 ||| (2 ^ (rw12 (mv (a * 7 + c))))))), some (.int (nI (c5 - 1))), some (.int (nI y6)), some (.int (nI c7))] [] w12 _
                  have hst : RBt n bt1 (fun j => mv (a * 7 + j)) c (z4 ||| (2 ^ (rw12 (mv (a * 7 + c))))) (c5 - 1 + 1) := by first | exact RBt_s hprev hb15 hyes (hrow _ hcn) (by omega) | exact RBt_n hprev (STt_f (rd := (fun j => mv (a * 7 + j))) hv36_2 (by assumption) hgg)
                  refine J_aload_n (pc := 103) dX8_reachNow_103 rfl rfl rfl ?_
                  refine J_iload (pc := 104) dX8_reachNow_104 rfl ?_
                  refine J_iconst (pc := 106) (v := nI 1) dX8_reachNow_106 (by decide) ?_
                  refine J_iaddN (pc := 107) dX8_reachNow_107 ?_
                  refine J_callV0 (pc := 108) (M := mX8_reachNow) (as := [.int (nI ((c5 - 1) + 1))]) dX8_reachNow_108 fw_X8_from fl_X8_137 fm_X8_from fe_X8_from h19_12 (by decide) rfl rfl rfl (c_X8_from hs (d := d - 1) (Nat.le_trans (by decide) hdm) (w := w12) (n := n) (mv := mv) (rw := rw12) (nx := nx1) (b := b1) (bt := bt1) (kn := kn1) (en := en1) (dn := dn) (rf := rf) (kk := kk) (th := th) ⟨h19_12, h20_12, h21_12, h22_12, hbb_12, hbl_12, hb3_12⟩ hn1 hn2 gm hgrw12 hgnx1 ((c5 - 1) + 1) (by first | assumption | omega) (kc := 0) (ks := 0)) hdp (st := []) (Nat.le_of_ble_eq_true rfl) rfl (kr_P fun v23 hv23 => ?_) kx_I
                  rcases hv23 with ⟨rfl, hk23_0⟩ | ⟨q23, rfl, hk23_0, hk23_1, hk23_2, hk23_3⟩
                  · refine J_istore (pc := 111) dX8_reachNow_111 (by decide) rfl ?_
                    show J X mX8_reachNow d (kc - 13) (ks - 2054) 113 [some (.ref 19), some (.int (nI s)), some (.int (nI a)), some (.int (nI c)), some (.int (nI (z4 ||| (2 ^ (rw12 (mv (a * 7 + c))))))), some (.int (-1)), some (.int (nI y6)), some (.int (nI c7))] [] w12 _
                    refine J_goto (pc := 113) (tgt := 15) dX8_reachNow_113 (by decide) ?_
                    exact J_sub (L' := [some (.ref 19), some (.int (nI s)), some (.int (nI a)), some (.int (nI c)), some (.int (nI (z4 ||| (2 ^ (rw12 (mv (a * 7 + c))))))), some (.int (nI 0 + Int32.ofInt (-1))), none, none]) ⟨rfl, ⟨rfl, ⟨rfl, ⟨rfl, ⟨rfl, ⟨(congrArg (fun z => some (Value.int z)) (by decide : (-1 : Int32) = nI 0 + Int32.ofInt (-1))), trivial⟩⟩⟩⟩⟩⟩ (ihlp15_3 w12 rw12 (z4 ||| (2 ^ (rw12 (mv (a * 7 + c))))) 0 ⟨h19_12, h20_12, h21_12, h22_12, hbb_12, hbl_12, hb3_12⟩ hF12 hgrw12 (by first | assumption | omega) (by intro h; first | (rw [Nat.add_sub_cancel]; assumption) | omega) (by first | exact KI_0 RBt_f hst (by omega) (by assumption) | exact KI_1 RBt_f hst (by omega) (by assumption)) (by exact mu_dec (by assumption) (by omega) (by omega) (by omega)))
                  · refine J_istore (pc := 111) dX8_reachNow_111 (by decide) rfl ?_
                    show J X mX8_reachNow d (kc - 13) (ks - 2054) 113 [some (.ref 19), some (.int (nI s)), some (.int (nI a)), some (.int (nI c)), some (.int (nI (z4 ||| (2 ^ (rw12 (mv (a * 7 + c))))))), some (.int (nI q23)), some (.int (nI y6)), some (.int (nI c7))] [] w12 _
                    refine J_goto (pc := 113) (tgt := 15) dX8_reachNow_113 (by decide) ?_
                    exact J_sub (L' := [some (.ref 19), some (.int (nI s)), some (.int (nI a)), some (.int (nI c)), some (.int (nI (z4 ||| (2 ^ (rw12 (mv (a * 7 + c))))))), some (.int (nI (q23 + 1) + Int32.ofInt (-1))), none, none]) ⟨rfl, ⟨rfl, ⟨rfl, ⟨rfl, ⟨rfl, ⟨(congrArg (fun z => some (Value.int z)) (nI_n1 q23)), trivial⟩⟩⟩⟩⟩⟩ (ihlp15_3 w12 rw12 (z4 ||| (2 ^ (rw12 (mv (a * 7 + c))))) (q23 + 1) ⟨h19_12, h20_12, h21_12, h22_12, hbb_12, hbl_12, hb3_12⟩ hF12 hgrw12 (by first | assumption | omega) (by intro h; first | (rw [Nat.add_sub_cancel]; assumption) | omega) (by first | exact KI_0 RBt_f hst (by omega) (by assumption) | exact KI_1 RBt_f hst (by omega) (by assumption)) (by exact mu_dec (by assumption) (by omega) (by omega) (by omega)))
              · refine J_iload (pc := 42) dX8_reachNow_42 rfl ?_
                refine J_aload_n (pc := 44) dX8_reachNow_44 rfl rfl rfl ?_
                refine J_get (pc := 45) (k := 2) dX8_reachNow_45 kC9 (by decide) ff_X8_17 h19_12 rfl ?_
                refine J_aload_n (pc := 48) dX8_reachNow_48 rfl rfl rfl ?_
                refine J_iload_n (pc := 49) dX8_reachNow_49 rfl rfl ?_
                refine J_iload (pc := 50) dX8_reachNow_50 rfl ?_
                refine J_callV0 (pc := 52) (M := mX8_reachNow) (as := [.int (nI a), .int (nI c7)]) dX8_reachNow_52 fw_X8_at fl_X8_82 fm_X8_at fe_X8_at h19_12 (by decide) rfl rfl rfl (c_X8_at hs (d := d - 1) (Nat.le_trans (by decide) hdm) (w := w12) (n := n) (mv := mv) (rw := rw12) (nx := nx1) (b := b1) (bt := bt1) (kn := kn1) (en := en1) (dn := dn) (rf := rf) (kk := kk) (th := th) ⟨h19_12, h20_12, h21_12, h22_12, hbb_12, hbl_12, hb3_12⟩ hn1 hn2 gm hgrw12 hgnx1 a c7 (by first | assumption | omega) (by first | assumption | omega) (kc := 0) (ks := 0)) hdp (st := [.ref 21, .int (nI y6)]) (Nat.le_of_ble_eq_true rfl) rfl (kr_P fun v24 hv24 => ?_) kx_I
                subst hv24
                have hq25 := gm (a * 7 + c7)
                refine J_ialdF (pc := 55) dX8_reachNow_55 h21_12 (by omega) (by decide) ?_
                have hq26 := hgrw12 (mv (a * 7 + c7))
                refine J_aload_n (pc := 56) dX8_reachNow_56 rfl rfl rfl ?_
                refine J_iload_n (pc := 57) dX8_reachNow_57 rfl rfl ?_
                refine J_iload (pc := 58) dX8_reachNow_58 rfl ?_
                refine J_callV0 (pc := 60) (M := mX8_reachNow) (as := [.int (nI a), .int (nI c7)]) dX8_reachNow_60 fw_X8_at fl_X8_82 fm_X8_at fe_X8_at h19_12 (by decide) rfl rfl rfl (c_X8_at hs (d := d - 1) (Nat.le_trans (by decide) hdm) (w := w12) (n := n) (mv := mv) (rw := rw12) (nx := nx1) (b := b1) (bt := bt1) (kn := kn1) (en := en1) (dn := dn) (rf := rf) (kk := kk) (th := th) ⟨h19_12, h20_12, h21_12, h22_12, hbb_12, hbl_12, hb3_12⟩ hn1 hn2 gm hgrw12 hgnx1 a c7 (by first | assumption | omega) (by first | assumption | omega) (kc := 0) (ks := 0)) hdp (st := [.int (nI (rw12 (mv (a * 7 + c7)))), .int (nI y6)]) (Nat.le_of_ble_eq_true rfl) rfl (kr_P fun v27 hv27 => ?_) kx_I
                subst hv27
                have hq28 := gm (a * 7 + c7)
                refine J_icmp_neN (pc := 63) (tgt := 70) dX8_reachNow_63 (by decide) (by omega) (by omega) (fun ht29 => ?_) (fun hf30 => ?_)
                · refine J_iconst (pc := 70) (v := nI 0) dX8_reachNow_70 (by decide) ?_
                  refine J_iand1 (pc := 71) dX8_reachNow_71 (by omega) (by omega) ?_
                  refine J_istore (pc := 72) dX8_reachNow_72 (by decide) rfl ?_
                  show J X mX8_reachNow d (kc - 13) (ks - 2054) 74 [some (.ref 19), some (.int (nI s)), some (.int (nI a)), some (.int (nI c)), some (.int (nI z4)), some (.int (nI (c5 - 1))), some (.int (nI (y6 * 0))), some (.int (nI c7))] [] w12 _
                  refine J_iincN (pc := 74) (b := 1) dX8_reachNow_74 rfl (by decide) (by decide) rfl ?_
                  show J X mX8_reachNow d (kc - 13) (ks - 2054) 77 [some (.ref 19), some (.int (nI s)), some (.int (nI a)), some (.int (nI c)), some (.int (nI z4)), some (.int (nI (c5 - 1))), some (.int (nI (y6 * 0))), some (.int (nI (c7 + 1)))] [] w12 _
                  refine J_goto (pc := 77) (tgt := 36) dX8_reachNow_77 (by decide) ?_
                  exact J_sub (L' := [some (.ref 19), some (.int (nI s)), some (.int (nI a)), some (.int (nI c)), some (.int (nI z4)), some (.int (nI (c5 - 1))), some (.int (nI (y6 * 0))), some (.int (nI (c7 + 1)))]) ⟨rfl, ⟨rfl, ⟨rfl, ⟨rfl, ⟨rfl, ⟨rfl, ⟨rfl, ⟨rfl, trivial⟩⟩⟩⟩⟩⟩⟩⟩ (ihlp36_13 (y6 * 0) (c7 + 1) (by first | assumption | omega) (by first | assumption | omega) (by first | exact STt_1 (rd := (fun j => mv (a * 7 + j))) hv36_2 (by assumption) | exact STt_n (rd := (fun j => mv (a * 7 + j))) (by omega) (by assumption)) (by omega))
                · refine J_iconst (pc := 66) (v := nI 1) dX8_reachNow_66 (by decide) ?_
                  refine J_goto (pc := 67) (tgt := 71) dX8_reachNow_67 (by decide) ?_
                  have hm31 := Nat.mod_lt y6 (show 0 < 2 ^ 1 by decide)
                  refine J_iandN (pc := 71) 1 dX8_reachNow_71 (by omega) (by decide) ?_
                  refine J_istore (pc := 72) dX8_reachNow_72 (by decide) rfl ?_
                  show J X mX8_reachNow d (kc - 13) (ks - 2054) 74 [some (.ref 19), some (.int (nI s)), some (.int (nI a)), some (.int (nI c)), some (.int (nI z4)), some (.int (nI (c5 - 1))), some (.int (nI (y6 % 2 ^ 1))), some (.int (nI c7))] [] w12 _
                  refine J_iincN (pc := 74) (b := 1) dX8_reachNow_74 rfl (by decide) (by decide) rfl ?_
                  show J X mX8_reachNow d (kc - 13) (ks - 2054) 77 [some (.ref 19), some (.int (nI s)), some (.int (nI a)), some (.int (nI c)), some (.int (nI z4)), some (.int (nI (c5 - 1))), some (.int (nI (y6 % 2 ^ 1))), some (.int (nI (c7 + 1)))] [] w12 _
                  refine J_goto (pc := 77) (tgt := 36) dX8_reachNow_77 (by decide) ?_
                  exact J_sub (L' := [some (.ref 19), some (.int (nI s)), some (.int (nI a)), some (.int (nI c)), some (.int (nI z4)), some (.int (nI (c5 - 1))), some (.int (nI (y6 % 2 ^ 1))), some (.int (nI (c7 + 1)))]) ⟨rfl, ⟨rfl, ⟨rfl, ⟨rfl, ⟨rfl, ⟨rfl, ⟨rfl, ⟨rfl, trivial⟩⟩⟩⟩⟩⟩⟩⟩ (ihlp36_13 (y6 % 2 ^ 1) (c7 + 1) (by first | assumption | omega) (by first | assumption | omega) (by first | exact STt_1 (rd := (fun j => mv (a * 7 + j))) hv36_2 (by assumption) | exact STt_n (rd := (fun j => mv (a * 7 + j))) (by omega) (by assumption)) (by omega))
          exact J_sub (L' := [some (.ref 19), some (.int (nI s)), some (.int (nI a)), some (.int (nI c)), some (.int (nI z4)), some (.int (nI (c5 - 1))), some (.int (nI 1)), some (.int (nI 0))]) ⟨rfl, ⟨rfl, ⟨rfl, ⟨rfl, ⟨rfl, ⟨rfl, ⟨rfl, ⟨rfl, trivial⟩⟩⟩⟩⟩⟩⟩⟩ (lp36_13 _ 1 0 (by first | assumption | omega) (by first | assumption | omega) (by exact STt_0) (Nat.lt_succ_self _))
    exact J_sub (L' := [some (.ref 19), some (.int (nI s)), some (.int (nI a)), some (.int (nI c)), some (.int (nI 0)), some (.int (nI 0 + Int32.ofInt (-1))), none, none]) ⟨rfl, ⟨rfl, ⟨rfl, ⟨rfl, ⟨rfl, ⟨(congrArg (fun z => some (Value.int z)) (by decide : (-1 : Int32) = nI 0 + Int32.ofInt (-1))), trivial⟩⟩⟩⟩⟩⟩ (lp15_3 _ w1 rw1 0 0 ⟨h19_1, h20_1, h21_1, h22_1, hbb_1, hbl_1, hb3_1⟩ hF1 hgrw1 (by first | assumption | omega) (by intro h; first | (rw [Nat.add_sub_cancel]; assumption) | omega) (by first | exact KI_0 RBt_f RBt_0 (Nat.zero_le _) (by assumption) | exact KI_1 RBt_f RBt_0 (Nat.zero_le _) (by assumption)) (Nat.lt_succ_self _))
  · refine J_istore (pc := 13) dX8_reachNow_13 (by decide) rfl ?_
    show J X mX8_reachNow d (kc - 13) (ks - 2054) 15 [some (.ref 19), some (.int (nI s)), some (.int (nI a)), some (.int (nI c)), some (.int (nI 0)), some (.int (nI q2)), none, none] [] w1 _
    have lp15_32 : ∀ (fuel : Nat) (w33 : List jC) (rw_15 : Nat → Nat) (z4 : Nat) (c5 : Nat), (RM n mv rw_15 nx1 b1 bt1 kn1 en1 dn rf kk th w33) → (FR b b1 w w33) → (∀ i, rw_15 i < 7) → (c5 ≤ fc n) → (0 < c5 → bitL bt1 (c5 - 1) = true) → (RBt n bt1 (fun j => mv (a * 7 + j)) c z4 (KK (fc n) c5)) → (mu (fc n) c5 < fuel) → J X mX8_reachNow d (kc - 13) (ks - 2054) 15 [some (.ref 19), some (.int (nI s)), some (.int (nI a)), some (.int (nI c)), some (.int (nI z4)), some (.int (nI c5 + Int32.ofInt (-1))), none, none] [] w33 (pI (fun v => v = nI (sBv (RP n (Gg n (gS (mW n mv) s 6)) (fun j => mv (a * 7 + j)) c) n)) (fun w' => ∃ (rw' : Nat → Nat), ∃ (nx' : Nat → Nat), ∃ (b' : Nat), ∃ (bt' : List Int32), ∃ (kn' : Int32), ∃ (en' : Int32), RM n mv rw' nx' b' bt' kn' en' dn rf kk th w' ∧ FR b b' w w' ∧ (∀ i, rw' i < 7) ∧ (∀ i, nx' i < 7) ∧ kn' = nI s ∧ BX n mv s bt' en')) := by
      intro fuellp15_32
      induction fuellp15_32 with
      | zero => intros; omega
      | succ fuellp15_32 ihlp15_32 =>
        intro w33 rw_15 z4 c5 hR34 hF35 gr36 hv15_0 hv15_1 hv15_2 hf37
        obtain ⟨h19_38, h20_38, h21_38, h22_38, hb_38, hbl_38, hb3_38⟩ := hR34
        refine J_iload (pc := 15) dX8_reachNow_15 rfl ?_
        refine J_if_ltM (pc := 17) (tgt := 116) dX8_reachNow_17 (by decide) (by omega) (fun ht39 => ?_) (fun hf40 => ?_)
        · refine J_iload (pc := 116) dX8_reachNow_116 rfl ?_
          exact J_iret (pc := 118) dX8_reachNow_118 rfl ⟨(congrArg nI (by exact RBt_end (by omega) hn2 hBX (fun j hj => (hy1 a hy3).1 j hj) hy4 (by have h := hv15_2; rw [show c5 = 0 by omega, KK_0] at h; exact h))), ⟨rw_15, nx1, b1, bt1, kn1, en1, ⟨h19_38, h20_38, h21_38, h22_38, hb_38, hbl_38, hb3_38⟩, hF35, gr36, hgnx1, (by first | rfl | assumption), (by first | assumption | exact hBX)⟩⟩
        · rw [nI_m1 hf40]
          have hb15 := hv15_1 (by omega)
          have hprev : RBt n bt1 (fun j => mv (a * 7 + j)) c z4 (c5 - 1) := by
            have h := hv15_2
            rw [KK_p (by omega)] at h
            exact h
          have hcn := (hy1 a hy3).1 c hy4
          refine J_aload_n (pc := 20) dX8_reachNow_20 rfl rfl rfl ?_
          refine J_iload (pc := 21) dX8_reachNow_21 rfl ?_
          refine J_aload_n (pc := 23) dX8_reachNow_23 rfl rfl rfl ?_
          refine J_get (pc := 24) (k := 2) dX8_reachNow_24 kC9 (by decide) ff_X8_17 h19_38 rfl ?_
          refine J_callV0 (pc := 27) (M := mX8_reachNow) (as := [.int (nI (c5 - 1)), .ref 21]) dX8_reachNow_27 fw_X8_rowOf fl_X8_78 fm_X8_rowOf fe_X8_rowOf h19_38 (by decide) rfl rfl rfl (c_X8_rowOf hs (d := d - 1) (Nat.le_trans (by decide) hdm) (w := w33) (n := n) (mv := mv) (rw := rw_15) (nx := nx1) (b := b1) (bt := bt1) (kn := kn1) (en := en1) (dn := dn) (rf := rf) (kk := kk) (th := th) ⟨h19_38, h20_38, h21_38, h22_38, hb_38, hbl_38, hb3_38⟩ hn1 hn2 gm gr36 hgnx1 (c5 - 1) (by first | assumption | omega) (kc := 0) (ks := 0)) hdp (st := []) (Nat.le_of_ble_eq_true rfl) rfl (kr_V fun w41 hw41 => ?_) kx_V
          obtain ⟨rw41, hR41, hFc41, hgrw41, hp41_0⟩ := hw41
          obtain ⟨h19_41, h20_41, h21_41, h22_41, hbb_41, hbl_41, hb3_41⟩ := hR41
          have hF41 := hF35.tr hFc41
          have hrow := hp41_0
          refine J_iconst (pc := 30) (v := nI 1) dX8_reachNow_30 (by decide) ?_
          refine J_istore (pc := 31) dX8_reachNow_31 (by decide) rfl ?_
          show J X mX8_reachNow d (kc - 13) (ks - 2054) 33 [some (.ref 19), some (.int (nI s)), some (.int (nI a)), some (.int (nI c)), some (.int (nI z4)), some (.int (nI (c5 - 1))), some (.int (nI 1)), none] [] w41 _
          refine J_iconst (pc := 33) (v := nI 0) dX8_reachNow_33 (by decide) ?_
          refine J_istore (pc := 34) dX8_reachNow_34 (by decide) rfl ?_
          show J X mX8_reachNow d (kc - 13) (ks - 2054) 36 [some (.ref 19), some (.int (nI s)), some (.int (nI a)), some (.int (nI c)), some (.int (nI z4)), some (.int (nI (c5 - 1))), some (.int (nI 1)), some (.int (nI 0))] [] w41 _
          have lp36_42 : ∀ (fuel : Nat) (y6 : Nat) (c7 : Nat), (y6 < 2) → (c7 ≤ c) → (STt rw41 (fun j => mv (a * 7 + j)) c c7 y6) → (c - c7 < fuel) → J X mX8_reachNow d (kc - 13) (ks - 2054) 36 [some (.ref 19), some (.int (nI s)), some (.int (nI a)), some (.int (nI c)), some (.int (nI z4)), some (.int (nI (c5 - 1))), some (.int (nI y6)), some (.int (nI c7))] [] w41 (pI (fun v => v = nI (sBv (RP n (Gg n (gS (mW n mv) s 6)) (fun j => mv (a * 7 + j)) c) n)) (fun w' => ∃ (rw' : Nat → Nat), ∃ (nx' : Nat → Nat), ∃ (b' : Nat), ∃ (bt' : List Int32), ∃ (kn' : Int32), ∃ (en' : Int32), RM n mv rw' nx' b' bt' kn' en' dn rf kk th w' ∧ FR b b' w w' ∧ (∀ i, rw' i < 7) ∧ (∀ i, nx' i < 7) ∧ kn' = nI s ∧ BX n mv s bt' en')) := by
            intro fuellp36_42
            induction fuellp36_42 with
            | zero => intros; omega
            | succ fuellp36_42 ihlp36_42 =>
              intro y6 c7 hv36_0 hv36_1 hv36_2 hf43
              refine J_iload (pc := 36) dX8_reachNow_36 rfl ?_
              refine J_iload_n (pc := 38) dX8_reachNow_38 rfl rfl ?_
              refine J_icmp_geN (pc := 39) (tgt := 80) dX8_reachNow_39 (by decide) (by omega) (by omega) (fun ht44 => ?_) (fun hf45 => ?_)
              · have hgg : ∀ j, j < c → rw41 ((fun j => mv (a * 7 + j)) j) = rwF n (c5 - 1) ((fun j => mv (a * 7 + j)) j) := fun j hj => hrow _ ((hy1 a hy3).1 j (by omega))
                refine J_iload (pc := 80) dX8_reachNow_80 rfl ?_
                refine J_if_eqN (pc := 82) (tgt := 103) dX8_reachNow_82 (by decide) (by omega) (fun ht46 => ?_) (fun hf47 => ?_)
                · have hst : RBt n bt1 (fun j => mv (a * 7 + j)) c z4 (c5 - 1 + 1) := by first | exact RBt_s hprev hb15 hyes (hrow _ hcn) (by omega) | exact RBt_n hprev (STt_f (rd := (fun j => mv (a * 7 + j))) hv36_2 (by assumption) hgg)
                  refine J_aload_n (pc := 103) dX8_reachNow_103 rfl rfl rfl ?_
                  refine J_iload (pc := 104) dX8_reachNow_104 rfl ?_
                  refine J_iconst (pc := 106) (v := nI 1) dX8_reachNow_106 (by decide) ?_
                  refine J_iaddN (pc := 107) dX8_reachNow_107 ?_
                  refine J_callV0 (pc := 108) (M := mX8_reachNow) (as := [.int (nI ((c5 - 1) + 1))]) dX8_reachNow_108 fw_X8_from fl_X8_137 fm_X8_from fe_X8_from h19_41 (by decide) rfl rfl rfl (c_X8_from hs (d := d - 1) (Nat.le_trans (by decide) hdm) (w := w41) (n := n) (mv := mv) (rw := rw41) (nx := nx1) (b := b1) (bt := bt1) (kn := kn1) (en := en1) (dn := dn) (rf := rf) (kk := kk) (th := th) ⟨h19_41, h20_41, h21_41, h22_41, hbb_41, hbl_41, hb3_41⟩ hn1 hn2 gm hgrw41 hgnx1 ((c5 - 1) + 1) (by first | assumption | omega) (kc := 0) (ks := 0)) hdp (st := []) (Nat.le_of_ble_eq_true rfl) rfl (kr_P fun v48 hv48 => ?_) kx_I
                  rcases hv48 with ⟨rfl, hk48_0⟩ | ⟨q48, rfl, hk48_0, hk48_1, hk48_2, hk48_3⟩
                  · refine J_istore (pc := 111) dX8_reachNow_111 (by decide) rfl ?_
                    show J X mX8_reachNow d (kc - 13) (ks - 2054) 113 [some (.ref 19), some (.int (nI s)), some (.int (nI a)), some (.int (nI c)), some (.int (nI z4)), some (.int (-1)), some (.int (nI y6)), some (.int (nI c7))] [] w41 _
                    refine J_goto (pc := 113) (tgt := 15) dX8_reachNow_113 (by decide) ?_
                    exact J_sub (L' := [some (.ref 19), some (.int (nI s)), some (.int (nI a)), some (.int (nI c)), some (.int (nI z4)), some (.int (nI 0 + Int32.ofInt (-1))), none, none]) ⟨rfl, ⟨rfl, ⟨rfl, ⟨rfl, ⟨rfl, ⟨(congrArg (fun z => some (Value.int z)) (by decide : (-1 : Int32) = nI 0 + Int32.ofInt (-1))), trivial⟩⟩⟩⟩⟩⟩ (ihlp15_32 w41 rw41 z4 0 ⟨h19_41, h20_41, h21_41, h22_41, hbb_41, hbl_41, hb3_41⟩ hF41 hgrw41 (by first | assumption | omega) (by intro h; first | (rw [Nat.add_sub_cancel]; assumption) | omega) (by first | exact KI_0 RBt_f hst (by omega) (by assumption) | exact KI_1 RBt_f hst (by omega) (by assumption)) (by exact mu_dec (by assumption) (by omega) (by omega) (by omega)))
                  · refine J_istore (pc := 111) dX8_reachNow_111 (by decide) rfl ?_
                    show J X mX8_reachNow d (kc - 13) (ks - 2054) 113 [some (.ref 19), some (.int (nI s)), some (.int (nI a)), some (.int (nI c)), some (.int (nI z4)), some (.int (nI q48)), some (.int (nI y6)), some (.int (nI c7))] [] w41 _
                    refine J_goto (pc := 113) (tgt := 15) dX8_reachNow_113 (by decide) ?_
                    exact J_sub (L' := [some (.ref 19), some (.int (nI s)), some (.int (nI a)), some (.int (nI c)), some (.int (nI z4)), some (.int (nI (q48 + 1) + Int32.ofInt (-1))), none, none]) ⟨rfl, ⟨rfl, ⟨rfl, ⟨rfl, ⟨rfl, ⟨(congrArg (fun z => some (Value.int z)) (nI_n1 q48)), trivial⟩⟩⟩⟩⟩⟩ (ihlp15_32 w41 rw41 z4 (q48 + 1) ⟨h19_41, h20_41, h21_41, h22_41, hbb_41, hbl_41, hb3_41⟩ hF41 hgrw41 (by first | assumption | omega) (by intro h; first | (rw [Nat.add_sub_cancel]; assumption) | omega) (by first | exact KI_0 RBt_f hst (by omega) (by assumption) | exact KI_1 RBt_f hst (by omega) (by assumption)) (by exact mu_dec (by assumption) (by omega) (by omega) (by omega)))
                · have hyes := STt_y (rd := (fun j => mv (a * 7 + j))) (g := rwF n (c5 - 1)) hv36_2 (by omega) (by assumption) hgg
                  have hrv : rw41 (mv (a * 7 + c)) < n := by rw [hrow _ hcn]; exact (rwF_Pn (by omega)).1 _ hcn
                  have hz4 := hprev.1
                  have hp2 : 2 ^ rw41 (mv (a * 7 + c)) < 2 ^ 31 := Nat.pow_lt_pow_right (by decide) (by omega)
                  refine J_iload (pc := 85) dX8_reachNow_85 rfl ?_
                  refine J_iconst (pc := 87) (v := nI 1) dX8_reachNow_87 (by decide) ?_
                  refine J_aload_n (pc := 88) dX8_reachNow_88 rfl rfl rfl ?_
                  refine J_get (pc := 89) (k := 2) dX8_reachNow_89 kC9 (by decide) ff_X8_17 h19_41 rfl ?_
                  refine J_aload_n (pc := 92) dX8_reachNow_92 rfl rfl rfl ?_
                  refine J_iload_n (pc := 93) dX8_reachNow_93 rfl rfl ?_
                  refine J_iload_n (pc := 94) dX8_reachNow_94 rfl rfl ?_
                  refine J_callV0 (pc := 95) (M := mX8_reachNow) (as := [.int (nI a), .int (nI c)]) dX8_reachNow_95 fw_X8_at fl_X8_82 fm_X8_at fe_X8_at h19_41 (by decide) rfl rfl rfl (c_X8_at hs (d := d - 1) (Nat.le_trans (by decide) hdm) (w := w41) (n := n) (mv := mv) (rw := rw41) (nx := nx1) (b := b1) (bt := bt1) (kn := kn1) (en := en1) (dn := dn) (rf := rf) (kk := kk) (th := th) ⟨h19_41, h20_41, h21_41, h22_41, hbb_41, hbl_41, hb3_41⟩ hn1 hn2 gm hgrw41 hgnx1 a c (by first | assumption | omega) (by first | assumption | omega) (kc := 0) (ks := 0)) hdp (st := [.ref 21, .int (nI 1), .int (nI z4)]) (Nat.le_of_ble_eq_true rfl) rfl (kr_P fun v49 hv49 => ?_) kx_I
                  subst hv49
                  have hq50 := gm (a * 7 + c)
                  refine J_ialdF (pc := 98) dX8_reachNow_98 h21_41 (by omega) (by decide) ?_
                  have hq51 := hgrw41 (mv (a * 7 + c))
                  refine J_shlOne (pc := 99) dX8_reachNow_99 (by omega) ?_
                  refine J_iorN (pc := 100) dX8_reachNow_100 (by omega) (by omega) ?_
                  refine J_istore (pc := 101) dX8_reachNow_101 (by decide) rfl ?_
                  show J X mX8_reachNow d (kc - 13) (ks - 2054) 103 [some (.ref 19), some (.int (nI s)), some (.int (nI a)), some (.int (nI c)), some (.int (nI (z4 ||| (2 ^ (rw41 (mv (a * 7 + c))))))), some (.int (nI (c5 - 1))), some (.int (nI y6)), some (.int (nI c7))] [] w41 _
                  have hst : RBt n bt1 (fun j => mv (a * 7 + j)) c (z4 ||| (2 ^ (rw41 (mv (a * 7 + c))))) (c5 - 1 + 1) := by first | exact RBt_s hprev hb15 hyes (hrow _ hcn) (by omega) | exact RBt_n hprev (STt_f (rd := (fun j => mv (a * 7 + j))) hv36_2 (by assumption) hgg)
                  refine J_aload_n (pc := 103) dX8_reachNow_103 rfl rfl rfl ?_
                  refine J_iload (pc := 104) dX8_reachNow_104 rfl ?_
                  refine J_iconst (pc := 106) (v := nI 1) dX8_reachNow_106 (by decide) ?_
                  refine J_iaddN (pc := 107) dX8_reachNow_107 ?_
                  refine J_callV0 (pc := 108) (M := mX8_reachNow) (as := [.int (nI ((c5 - 1) + 1))]) dX8_reachNow_108 fw_X8_from fl_X8_137 fm_X8_from fe_X8_from h19_41 (by decide) rfl rfl rfl (c_X8_from hs (d := d - 1) (Nat.le_trans (by decide) hdm) (w := w41) (n := n) (mv := mv) (rw := rw41) (nx := nx1) (b := b1) (bt := bt1) (kn := kn1) (en := en1) (dn := dn) (rf := rf) (kk := kk) (th := th) ⟨h19_41, h20_41, h21_41, h22_41, hbb_41, hbl_41, hb3_41⟩ hn1 hn2 gm hgrw41 hgnx1 ((c5 - 1) + 1) (by first | assumption | omega) (kc := 0) (ks := 0)) hdp (st := []) (Nat.le_of_ble_eq_true rfl) rfl (kr_P fun v52 hv52 => ?_) kx_I
                  rcases hv52 with ⟨rfl, hk52_0⟩ | ⟨q52, rfl, hk52_0, hk52_1, hk52_2, hk52_3⟩
                  · refine J_istore (pc := 111) dX8_reachNow_111 (by decide) rfl ?_
                    show J X mX8_reachNow d (kc - 13) (ks - 2054) 113 [some (.ref 19), some (.int (nI s)), some (.int (nI a)), some (.int (nI c)), some (.int (nI (z4 ||| (2 ^ (rw41 (mv (a * 7 + c))))))), some (.int (-1)), some (.int (nI y6)), some (.int (nI c7))] [] w41 _
                    refine J_goto (pc := 113) (tgt := 15) dX8_reachNow_113 (by decide) ?_
                    exact J_sub (L' := [some (.ref 19), some (.int (nI s)), some (.int (nI a)), some (.int (nI c)), some (.int (nI (z4 ||| (2 ^ (rw41 (mv (a * 7 + c))))))), some (.int (nI 0 + Int32.ofInt (-1))), none, none]) ⟨rfl, ⟨rfl, ⟨rfl, ⟨rfl, ⟨rfl, ⟨(congrArg (fun z => some (Value.int z)) (by decide : (-1 : Int32) = nI 0 + Int32.ofInt (-1))), trivial⟩⟩⟩⟩⟩⟩ (ihlp15_32 w41 rw41 (z4 ||| (2 ^ (rw41 (mv (a * 7 + c))))) 0 ⟨h19_41, h20_41, h21_41, h22_41, hbb_41, hbl_41, hb3_41⟩ hF41 hgrw41 (by first | assumption | omega) (by intro h; first | (rw [Nat.add_sub_cancel]; assumption) | omega) (by first | exact KI_0 RBt_f hst (by omega) (by assumption) | exact KI_1 RBt_f hst (by omega) (by assumption)) (by exact mu_dec (by assumption) (by omega) (by omega) (by omega)))
                  · refine J_istore (pc := 111) dX8_reachNow_111 (by decide) rfl ?_
                    show J X mX8_reachNow d (kc - 13) (ks - 2054) 113 [some (.ref 19), some (.int (nI s)), some (.int (nI a)), some (.int (nI c)), some (.int (nI (z4 ||| (2 ^ (rw41 (mv (a * 7 + c))))))), some (.int (nI q52)), some (.int (nI y6)), some (.int (nI c7))] [] w41 _
                    refine J_goto (pc := 113) (tgt := 15) dX8_reachNow_113 (by decide) ?_
                    exact J_sub (L' := [some (.ref 19), some (.int (nI s)), some (.int (nI a)), some (.int (nI c)), some (.int (nI (z4 ||| (2 ^ (rw41 (mv (a * 7 + c))))))), some (.int (nI (q52 + 1) + Int32.ofInt (-1))), none, none]) ⟨rfl, ⟨rfl, ⟨rfl, ⟨rfl, ⟨rfl, ⟨(congrArg (fun z => some (Value.int z)) (nI_n1 q52)), trivial⟩⟩⟩⟩⟩⟩ (ihlp15_32 w41 rw41 (z4 ||| (2 ^ (rw41 (mv (a * 7 + c))))) (q52 + 1) ⟨h19_41, h20_41, h21_41, h22_41, hbb_41, hbl_41, hb3_41⟩ hF41 hgrw41 (by first | assumption | omega) (by intro h; first | (rw [Nat.add_sub_cancel]; assumption) | omega) (by first | exact KI_0 RBt_f hst (by omega) (by assumption) | exact KI_1 RBt_f hst (by omega) (by assumption)) (by exact mu_dec (by assumption) (by omega) (by omega) (by omega)))
              · refine J_iload (pc := 42) dX8_reachNow_42 rfl ?_
                refine J_aload_n (pc := 44) dX8_reachNow_44 rfl rfl rfl ?_
                refine J_get (pc := 45) (k := 2) dX8_reachNow_45 kC9 (by decide) ff_X8_17 h19_41 rfl ?_
                refine J_aload_n (pc := 48) dX8_reachNow_48 rfl rfl rfl ?_
                refine J_iload_n (pc := 49) dX8_reachNow_49 rfl rfl ?_
                refine J_iload (pc := 50) dX8_reachNow_50 rfl ?_
                refine J_callV0 (pc := 52) (M := mX8_reachNow) (as := [.int (nI a), .int (nI c7)]) dX8_reachNow_52 fw_X8_at fl_X8_82 fm_X8_at fe_X8_at h19_41 (by decide) rfl rfl rfl (c_X8_at hs (d := d - 1) (Nat.le_trans (by decide) hdm) (w := w41) (n := n) (mv := mv) (rw := rw41) (nx := nx1) (b := b1) (bt := bt1) (kn := kn1) (en := en1) (dn := dn) (rf := rf) (kk := kk) (th := th) ⟨h19_41, h20_41, h21_41, h22_41, hbb_41, hbl_41, hb3_41⟩ hn1 hn2 gm hgrw41 hgnx1 a c7 (by first | assumption | omega) (by first | assumption | omega) (kc := 0) (ks := 0)) hdp (st := [.ref 21, .int (nI y6)]) (Nat.le_of_ble_eq_true rfl) rfl (kr_P fun v53 hv53 => ?_) kx_I
                subst hv53
                have hq54 := gm (a * 7 + c7)
                refine J_ialdF (pc := 55) dX8_reachNow_55 h21_41 (by omega) (by decide) ?_
                have hq55 := hgrw41 (mv (a * 7 + c7))
                refine J_aload_n (pc := 56) dX8_reachNow_56 rfl rfl rfl ?_
                refine J_iload_n (pc := 57) dX8_reachNow_57 rfl rfl ?_
                refine J_iload (pc := 58) dX8_reachNow_58 rfl ?_
                refine J_callV0 (pc := 60) (M := mX8_reachNow) (as := [.int (nI a), .int (nI c7)]) dX8_reachNow_60 fw_X8_at fl_X8_82 fm_X8_at fe_X8_at h19_41 (by decide) rfl rfl rfl (c_X8_at hs (d := d - 1) (Nat.le_trans (by decide) hdm) (w := w41) (n := n) (mv := mv) (rw := rw41) (nx := nx1) (b := b1) (bt := bt1) (kn := kn1) (en := en1) (dn := dn) (rf := rf) (kk := kk) (th := th) ⟨h19_41, h20_41, h21_41, h22_41, hbb_41, hbl_41, hb3_41⟩ hn1 hn2 gm hgrw41 hgnx1 a c7 (by first | assumption | omega) (by first | assumption | omega) (kc := 0) (ks := 0)) hdp (st := [.int (nI (rw41 (mv (a * 7 + c7)))), .int (nI y6)]) (Nat.le_of_ble_eq_true rfl) rfl (kr_P fun v56 hv56 => ?_) kx_I
                subst hv56
                have hq57 := gm (a * 7 + c7)
                refine J_icmp_neN (pc := 63) (tgt := 70) dX8_reachNow_63 (by decide) (by omega) (by omega) (fun ht58 => ?_) (fun hf59 => ?_)
                · refine J_iconst (pc := 70) (v := nI 0) dX8_reachNow_70 (by decide) ?_
                  refine J_iand1 (pc := 71) dX8_reachNow_71 (by omega) (by omega) ?_
                  refine J_istore (pc := 72) dX8_reachNow_72 (by decide) rfl ?_
                  show J X mX8_reachNow d (kc - 13) (ks - 2054) 74 [some (.ref 19), some (.int (nI s)), some (.int (nI a)), some (.int (nI c)), some (.int (nI z4)), some (.int (nI (c5 - 1))), some (.int (nI (y6 * 0))), some (.int (nI c7))] [] w41 _
                  refine J_iincN (pc := 74) (b := 1) dX8_reachNow_74 rfl (by decide) (by decide) rfl ?_
                  show J X mX8_reachNow d (kc - 13) (ks - 2054) 77 [some (.ref 19), some (.int (nI s)), some (.int (nI a)), some (.int (nI c)), some (.int (nI z4)), some (.int (nI (c5 - 1))), some (.int (nI (y6 * 0))), some (.int (nI (c7 + 1)))] [] w41 _
                  refine J_goto (pc := 77) (tgt := 36) dX8_reachNow_77 (by decide) ?_
                  exact J_sub (L' := [some (.ref 19), some (.int (nI s)), some (.int (nI a)), some (.int (nI c)), some (.int (nI z4)), some (.int (nI (c5 - 1))), some (.int (nI (y6 * 0))), some (.int (nI (c7 + 1)))]) ⟨rfl, ⟨rfl, ⟨rfl, ⟨rfl, ⟨rfl, ⟨rfl, ⟨rfl, ⟨rfl, trivial⟩⟩⟩⟩⟩⟩⟩⟩ (ihlp36_42 (y6 * 0) (c7 + 1) (by first | assumption | omega) (by first | assumption | omega) (by first | exact STt_1 (rd := (fun j => mv (a * 7 + j))) hv36_2 (by assumption) | exact STt_n (rd := (fun j => mv (a * 7 + j))) (by omega) (by assumption)) (by omega))
                · refine J_iconst (pc := 66) (v := nI 1) dX8_reachNow_66 (by decide) ?_
                  refine J_goto (pc := 67) (tgt := 71) dX8_reachNow_67 (by decide) ?_
                  have hm60 := Nat.mod_lt y6 (show 0 < 2 ^ 1 by decide)
                  refine J_iandN (pc := 71) 1 dX8_reachNow_71 (by omega) (by decide) ?_
                  refine J_istore (pc := 72) dX8_reachNow_72 (by decide) rfl ?_
                  show J X mX8_reachNow d (kc - 13) (ks - 2054) 74 [some (.ref 19), some (.int (nI s)), some (.int (nI a)), some (.int (nI c)), some (.int (nI z4)), some (.int (nI (c5 - 1))), some (.int (nI (y6 % 2 ^ 1))), some (.int (nI c7))] [] w41 _
                  refine J_iincN (pc := 74) (b := 1) dX8_reachNow_74 rfl (by decide) (by decide) rfl ?_
                  show J X mX8_reachNow d (kc - 13) (ks - 2054) 77 [some (.ref 19), some (.int (nI s)), some (.int (nI a)), some (.int (nI c)), some (.int (nI z4)), some (.int (nI (c5 - 1))), some (.int (nI (y6 % 2 ^ 1))), some (.int (nI (c7 + 1)))] [] w41 _
                  refine J_goto (pc := 77) (tgt := 36) dX8_reachNow_77 (by decide) ?_
                  exact J_sub (L' := [some (.ref 19), some (.int (nI s)), some (.int (nI a)), some (.int (nI c)), some (.int (nI z4)), some (.int (nI (c5 - 1))), some (.int (nI (y6 % 2 ^ 1))), some (.int (nI (c7 + 1)))]) ⟨rfl, ⟨rfl, ⟨rfl, ⟨rfl, ⟨rfl, ⟨rfl, ⟨rfl, ⟨rfl, trivial⟩⟩⟩⟩⟩⟩⟩⟩ (ihlp36_42 (y6 % 2 ^ 1) (c7 + 1) (by first | assumption | omega) (by first | assumption | omega) (by first | exact STt_1 (rd := (fun j => mv (a * 7 + j))) hv36_2 (by assumption) | exact STt_n (rd := (fun j => mv (a * 7 + j))) (by omega) (by assumption)) (by omega))
          exact J_sub (L' := [some (.ref 19), some (.int (nI s)), some (.int (nI a)), some (.int (nI c)), some (.int (nI z4)), some (.int (nI (c5 - 1))), some (.int (nI 1)), some (.int (nI 0))]) ⟨rfl, ⟨rfl, ⟨rfl, ⟨rfl, ⟨rfl, ⟨rfl, ⟨rfl, ⟨rfl, trivial⟩⟩⟩⟩⟩⟩⟩⟩ (lp36_42 _ 1 0 (by first | assumption | omega) (by first | assumption | omega) (by exact STt_0) (Nat.lt_succ_self _))
    exact J_sub (L' := [some (.ref 19), some (.int (nI s)), some (.int (nI a)), some (.int (nI c)), some (.int (nI 0)), some (.int (nI (q2 + 1) + Int32.ofInt (-1))), none, none]) ⟨rfl, ⟨rfl, ⟨rfl, ⟨rfl, ⟨rfl, ⟨(congrArg (fun z => some (Value.int z)) (nI_n1 q2)), trivial⟩⟩⟩⟩⟩⟩ (lp15_32 _ w1 rw1 0 (q2 + 1) ⟨h19_1, h20_1, h21_1, h22_1, hbb_1, hbl_1, hb3_1⟩ hF1 hgrw1 (by first | assumption | omega) (by intro h; first | (rw [Nat.add_sub_cancel]; assumption) | omega) (by first | exact KI_0 RBt_f RBt_0 (Nat.zero_le _) (by assumption) | exact KI_1 RBt_f RBt_0 (Nat.zero_le _) (by assumption)) (Nat.lt_succ_self _))
set_option maxRecDepth 100000 in
set_option maxHeartbeats 4000000 in
theorem c_X8_isInNow_atx {X : jX} (hs : X.1.stackTraces = false) {d : Nat} (hd : 4 ≤ d) {n : Nat} {mv rw nx : Nat → Nat} {b : Nat} {bt : List Int32} {kn en dn rf kk th : Int32} {w : List jC} (hR : RM n mv rw nx b bt kn en dn rf kk th w) (hn1 : 2 ≤ n) (hn2 : n ≤ 7) (gm : ∀ i, mv i < 7) (gr : ∀ i, rw i < 7) (gx : ∀ i, nx i < 7) (s : Nat) (a : Nat) (hy0 : s < 64) (hy1 : PM n mv) (hy2 : KX n mv kn bt en) (hy3 : a < 6) {kc ks : Nat} (hkc : 13 ≤ kc) (hks : 2054 ≤ ks) : jMet X mX8_isInNow d kc ks [.ref 19, .int (nI s), .int (nI a)] w (pI (fun v => (v = nI 0 ∧ ¬ (Gg n (gS (mW n mv) s 6)) (mW n mv a)) ∨ (v = nI 1 ∧ (Gg n (gS (mW n mv) s 6)) (mW n mv a))) (fun w' => ∃ (rw' : Nat → Nat), ∃ (nx' : Nat → Nat), ∃ (b' : Nat), ∃ (bt' : List Int32), ∃ (kn' : Int32), ∃ (en' : Int32), RM n mv rw' nx' b' bt' kn' en' dn rf kk th w' ∧ FR b b' w w' ∧ (∀ i, rw' i < 7) ∧ (∀ i, nx' i < 7) ∧ kn' = nI s ∧ BX n mv s bt' en')) := by
  refine jMet_of hs (by decide +kernel) (Nat.le_of_ble_eq_true rfl) (L := [some (.ref 19), some (.int (nI s)), some (.int (nI a))]) rfl ?_
  have hdm : 3 ≤ d - 1 := by omega
  have hdp : d - 1 + 1 ≤ d := by omega
  have hfc := fc_7 hn2
  have hfp := fc_pos n
  obtain ⟨h19, h20, h21, h22, hbb, hbl, hb3⟩ := hR
  have hF : FR b b w w := FR.rf
  refine J_aload_n (pc := 0) dX8_isInNow_0 rfl rfl rfl ?_
  refine J_iload_n (pc := 1) dX8_isInNow_1 rfl rfl ?_
  refine J_callV (pc := 2) (M := mX8_isInNow) (as := [.int (nI s)]) dX8_isInNow_2 fw_X8_group fl_X8_99 fm_X8_group fe_X8_group h19 (by decide) rfl rfl rfl (c_X8_group_ate hs (d := d - 1) (Nat.le_trans (by decide) hdm) (w := w) (n := n) (mv := mv) (rw := rw) (nx := nx) (b := b) (bt := bt) (kn := kn) (en := en) (dn := dn) (rf := rf) (kk := kk) (th := th) ⟨h19, h20, h21, h22, hbb, hbl, hb3⟩ hn1 hn2 gm gr gx s (by first | assumption | omega) (by first | assumption | omega) (by first | assumption | omega) (kc := 13) (ks := 2054) (Nat.le_refl _) (Nat.le_refl _)) hdp (by omega) (by omega) (st := []) (Nat.le_of_ble_eq_true rfl) rfl (kr_V fun w1 hw1 => ?_) kx_V
  obtain ⟨rw1, nx1, b1, bt1, kn1, en1, hR1, hFc1, hgrw1, hgnx1, hp1_0, hp1_1⟩ := hw1
  obtain ⟨h19_1, h20_1, h21_1, h22_1, hbb_1, hbl_1, hb3_1⟩ := hR1
  have qd1 := hFc1.2.1
  have hF1 := hF.tr hFc1
  have hBXE := hp1_1; have hBX := hBXE.1
  refine J_aload_n (pc := 5) dX8_isInNow_5 rfl rfl rfl ?_
  refine J_aload_n (pc := 6) dX8_isInNow_6 rfl rfl rfl ?_
  refine J_aload_n (pc := 7) dX8_isInNow_7 rfl rfl rfl ?_
  refine J_get (pc := 8) (k := 1) dX8_isInNow_8 kC9 (by decide) ff_X8_13 h19_1 rfl ?_
  refine J_iload_n (pc := 11) dX8_isInNow_11 rfl rfl ?_
  refine J_bipush (pc := 12) (v := nI 7) dX8_isInNow_12 (by decide) ?_
  refine J_imulN (pc := 14) dX8_isInNow_14 ?_
  refine J_callV0 (pc := 15) (M := mX8_isInNow) (as := [.ref 20, .int (nI (a * 7))]) dX8_isInNow_15 fw_X8_numberOf fl_X8_45 fm_X8_numberOf fe_X8_numberOf h19_1 (by decide) rfl rfl rfl (c_X8_numberOf_at20 hs (d := d - 1) (Nat.le_trans (by decide) hdm) (w := w1) (n := n) (mv := mv) (rw := rw1) (nx := nx1) (b := b1) (bt := bt1) (kn := kn1) (en := en1) (dn := dn) (rf := rf) (kk := kk) (th := th) ⟨h19_1, h20_1, h21_1, h22_1, hbb_1, hbl_1, hb3_1⟩ hn1 hn2 gm hgrw1 hgnx1 (a * 7) (by first | assumption | omega) (kc := 0) (ks := 0)) hdp (st := [.ref 19]) (Nat.le_of_ble_eq_true rfl) rfl (kr_P fun v2 hv2 => ?_) kx_I
  subst hv2
  have hq3 := nuF_b mv (a * 7) n
  refine J_callV0 (pc := 18) (M := mX8_isInNow) (as := [.int (nI (nuF mv (a * 7) n n))]) dX8_isInNow_18 fw_X8_isBit fl_X8_88 fm_X8_isBit fe_X8_isBit h19_1 (by decide) rfl rfl rfl (c_X8_isBit hs (d := d - 1) (Nat.le_trans (by decide) hdm) (w := w1) (n := n) (mv := mv) (rw := rw1) (nx := nx1) (b := b1) (bt := bt1) (kn := kn1) (en := en1) (dn := dn) (rf := rf) (kk := kk) (th := th) ⟨h19_1, h20_1, h21_1, h22_1, hbb_1, hbl_1, hb3_1⟩ hn1 hn2 gm hgrw1 hgnx1 (nuF mv (a * 7) n n) (by first | assumption | omega) (kc := 0) (ks := 0)) hdp (st := []) (Nat.le_of_ble_eq_true rfl) rfl (kr_P fun v4 hv4 => ?_) kx_I
  rcases hv4 with ⟨rfl, hk4_0⟩ | ⟨rfl, hk4_0⟩
  · exact J_zret (pc := 21) dX8_isInNow_21 rfl (nar_b (by first | decide | omega)) ⟨Or.inl ⟨rfl, (by exact fun h => absurd ((in_bit hn1 hn2 hy1 hBX hy3).mpr h) (bf (by assumption)))⟩, ⟨rw1, nx1, b1, bt1, kn1, en1, ⟨h19_1, h20_1, h21_1, h22_1, hbb_1, hbl_1, hb3_1⟩, hF1, hgrw1, hgnx1, (by first | rfl | assumption), (by first | assumption | exact hBX)⟩⟩
  · exact J_zret (pc := 21) dX8_isInNow_21 rfl (nar_b (by first | decide | omega)) ⟨Or.inr (⟨rfl, (by exact (in_bit hn1 hn2 hy1 hBX hy3).mp (by assumption))⟩), ⟨rw1, nx1, b1, bt1, kn1, en1, ⟨h19_1, h20_1, h21_1, h22_1, hbb_1, hbl_1, hb3_1⟩, hF1, hgrw1, hgnx1, (by first | rfl | assumption), (by first | assumption | exact hBX)⟩⟩
set_option maxRecDepth 100000 in
set_option maxHeartbeats 4000000 in
theorem c_X8_evenNow_atx {X : jX} (hs : X.1.stackTraces = false) {d : Nat} (hd : 4 ≤ d) {n : Nat} {mv rw nx : Nat → Nat} {b : Nat} {bt : List Int32} {kn en dn rf kk th : Int32} {w : List jC} (hR : RM n mv rw nx b bt kn en dn rf kk th w) (hn1 : 2 ≤ n) (hn2 : n ≤ 7) (gm : ∀ i, mv i < 7) (gr : ∀ i, rw i < 7) (gx : ∀ i, nx i < 7) (s : Nat) (hy0 : s < 64) (hy1 : PM n mv) (hy2 : KX n mv kn bt en) {kc ks : Nat} (hkc : 13 ≤ kc) (hks : 2054 ≤ ks) : jMet X mX8_evenNow d kc ks [.ref 19, .int (nI s)] w (pI (fun v => v = nI (cd n (fun x => (Gg n (gS (mW n mv) s 6)) x ∧ sg n x = nI 1))) (fun w' => ∃ (rw' : Nat → Nat), ∃ (nx' : Nat → Nat), ∃ (b' : Nat), ∃ (bt' : List Int32), ∃ (kn' : Int32), ∃ (en' : Int32), RM n mv rw' nx' b' bt' kn' en' dn rf kk th w' ∧ FR b b' w w' ∧ (∀ i, rw' i < 7) ∧ (∀ i, nx' i < 7) ∧ kn' = nI s ∧ BX n mv s bt' en')) := by
  refine jMet_of hs (by decide +kernel) (Nat.le_of_ble_eq_true rfl) (L := [some (.ref 19), some (.int (nI s)), none, none]) rfl ?_
  have hdm : 3 ≤ d - 1 := by omega
  have hdp : d - 1 + 1 ≤ d := by omega
  have hfc := fc_7 hn2
  have hfp := fc_pos n
  obtain ⟨h19, h20, h21, h22, hbb, hbl, hb3⟩ := hR
  have hF : FR b b w w := FR.rf
  refine J_aload_n (pc := 0) dX8_evenNow_0 rfl rfl rfl ?_
  refine J_iload_n (pc := 1) dX8_evenNow_1 rfl rfl ?_
  refine J_callV (pc := 2) (M := mX8_evenNow) (as := [.int (nI s)]) dX8_evenNow_2 fw_X8_group fl_X8_99 fm_X8_group fe_X8_group h19 (by decide) rfl rfl rfl (c_X8_group_ate hs (d := d - 1) (Nat.le_trans (by decide) hdm) (w := w) (n := n) (mv := mv) (rw := rw) (nx := nx) (b := b) (bt := bt) (kn := kn) (en := en) (dn := dn) (rf := rf) (kk := kk) (th := th) ⟨h19, h20, h21, h22, hbb, hbl, hb3⟩ hn1 hn2 gm gr gx s (by first | assumption | omega) (by first | assumption | omega) (by first | assumption | omega) (kc := 13) (ks := 2054) (Nat.le_refl _) (Nat.le_refl _)) hdp (by omega) (by omega) (st := []) (Nat.le_of_ble_eq_true rfl) rfl (kr_V fun w1 hw1 => ?_) kx_V
  obtain ⟨rw1, nx1, b1, bt1, kn1, en1, hR1, hFc1, hgrw1, hgnx1, hp1_0, hp1_1⟩ := hw1
  obtain ⟨h19_1, h20_1, h21_1, h22_1, hbb_1, hbl_1, hb3_1⟩ := hR1
  have qd1 := hFc1.2.1
  have hF1 := hF.tr hFc1
  have hBXE := hp1_1; have hBX := hBXE.1
  refine J_iconst (pc := 5) (v := nI 0) dX8_evenNow_5 (by decide) ?_
  refine J_istore_n (pc := 6) dX8_evenNow_6 rfl (by decide) rfl ?_
  show J X mX8_evenNow d (kc - 13) (ks - 2054) 7 [some (.ref 19), some (.int (nI s)), some (.int (nI 0)), none] [] w1 _
  refine J_aload_n (pc := 7) dX8_evenNow_7 rfl rfl rfl ?_
  refine J_iconst (pc := 8) (v := nI 0) dX8_evenNow_8 (by decide) ?_
  refine J_callV0 (pc := 9) (M := mX8_evenNow) (as := [.int (nI 0)]) dX8_evenNow_9 fw_X8_from fl_X8_137 fm_X8_from fe_X8_from h19_1 (by decide) rfl rfl rfl (c_X8_from hs (d := d - 1) (Nat.le_trans (by decide) hdm) (w := w1) (n := n) (mv := mv) (rw := rw1) (nx := nx1) (b := b1) (bt := bt1) (kn := kn1) (en := en1) (dn := dn) (rf := rf) (kk := kk) (th := th) ⟨h19_1, h20_1, h21_1, h22_1, hbb_1, hbl_1, hb3_1⟩ hn1 hn2 gm hgrw1 hgnx1 0 (by first | assumption | omega) (kc := 0) (ks := 0)) hdp (st := []) (Nat.le_of_ble_eq_true rfl) rfl (kr_P fun v2 hv2 => ?_) kx_I
  rcases hv2 with ⟨rfl, hk2_0⟩ | ⟨q2, rfl, hk2_0, hk2_1, hk2_2, hk2_3⟩
  · refine J_istore_n (pc := 12) dX8_evenNow_12 rfl (by decide) rfl ?_
    show J X mX8_evenNow d (kc - 13) (ks - 2054) 13 [some (.ref 19), some (.int (nI s)), some (.int (nI 0)), some (.int (-1))] [] w1 _
    have lp13_3 : ∀ (fuel : Nat) (w4 : List jC) (rw_13 : Nat → Nat) (z2 : Nat) (c3 : Nat), (RM n mv rw_13 nx1 b1 bt1 kn1 en1 dn rf kk th w4) → (FR b b1 w w4) → (∀ i, rw_13 i < 7) → (c3 ≤ fc n) → (0 < c3 → bitL bt1 (c3 - 1) = true) → (CTt bt1 (fun k => sg n (XM n k) = nI 1) z2 (KK (fc n) c3)) → (mu (fc n) c3 < fuel) → J X mX8_evenNow d (kc - 13) (ks - 2054) 13 [some (.ref 19), some (.int (nI s)), some (.int (nI z2)), some (.int (nI c3 + Int32.ofInt (-1)))] [] w4 (pI (fun v => v = nI (cd n (fun x => (Gg n (gS (mW n mv) s 6)) x ∧ sg n x = nI 1))) (fun w' => ∃ (rw' : Nat → Nat), ∃ (nx' : Nat → Nat), ∃ (b' : Nat), ∃ (bt' : List Int32), ∃ (kn' : Int32), ∃ (en' : Int32), RM n mv rw' nx' b' bt' kn' en' dn rf kk th w' ∧ FR b b' w w' ∧ (∀ i, rw' i < 7) ∧ (∀ i, nx' i < 7) ∧ kn' = nI s ∧ BX n mv s bt' en')) := by
      intro fuellp13_3
      induction fuellp13_3 with
      | zero => intros; omega
      | succ fuellp13_3 ihlp13_3 =>
        intro w4 rw_13 z2 c3 hR5 hF6 gr7 hv13_0 hv13_1 hv13_2 hf8
        obtain ⟨h19_9, h20_9, h21_9, h22_9, hb_9, hbl_9, hb3_9⟩ := hR5
        refine J_iload_n (pc := 13) dX8_evenNow_13 rfl rfl ?_
        refine J_if_ltM (pc := 14) (tgt := 58) dX8_evenNow_14 (by decide) (by omega) (fun ht10 => ?_) (fun hf11 => ?_)
        · refine J_iload_n (pc := 58) dX8_evenNow_58 rfl rfl ?_
          exact J_iret (pc := 59) dX8_evenNow_59 rfl ⟨(congrArg nI (by exact CTt_end hBX (fun k hk => Iff.rfl) (by have h := hv13_2; rw [show c3 = 0 by omega, KK_0] at h; exact h))), ⟨rw_13, nx1, b1, bt1, kn1, en1, ⟨h19_9, h20_9, h21_9, h22_9, hb_9, hbl_9, hb3_9⟩, hF6, gr7, hgnx1, (by first | rfl | assumption), (by first | assumption | exact hBX)⟩⟩
        · rw [nI_m1 hf11]
          have hb13 := hv13_1 (by omega)
          have hprev : CTt bt1 (fun k => sg n (XM n k) = nI 1) z2 (c3 - 1) := by
            have h := hv13_2
            rw [KK_p (by omega)] at h
            exact h
          refine J_aload_n (pc := 17) dX8_evenNow_17 rfl rfl rfl ?_
          refine J_iload_n (pc := 18) dX8_evenNow_18 rfl rfl ?_
          refine J_aload_n (pc := 19) dX8_evenNow_19 rfl rfl rfl ?_
          refine J_get (pc := 20) (k := 2) dX8_evenNow_20 kC9 (by decide) ff_X8_17 h19_9 rfl ?_
          refine J_callV0 (pc := 23) (M := mX8_evenNow) (as := [.int (nI (c3 - 1)), .ref 21]) dX8_evenNow_23 fw_X8_rowOf fl_X8_78 fm_X8_rowOf fe_X8_rowOf h19_9 (by decide) rfl rfl rfl (c_X8_rowOf hs (d := d - 1) (Nat.le_trans (by decide) hdm) (w := w4) (n := n) (mv := mv) (rw := rw_13) (nx := nx1) (b := b1) (bt := bt1) (kn := kn1) (en := en1) (dn := dn) (rf := rf) (kk := kk) (th := th) ⟨h19_9, h20_9, h21_9, h22_9, hb_9, hbl_9, hb3_9⟩ hn1 hn2 gm gr7 hgnx1 (c3 - 1) (by first | assumption | omega) (kc := 0) (ks := 0)) hdp (st := []) (Nat.le_of_ble_eq_true rfl) rfl (kr_V fun w12 hw12 => ?_) kx_V
          obtain ⟨rw12, hR12, hFc12, hgrw12, hp12_0⟩ := hw12
          obtain ⟨h19_12, h20_12, h21_12, h22_12, hbb_12, hbl_12, hb3_12⟩ := hR12
          have hF12 := hF6.tr hFc12
          have hrow := hp12_0
          refine J_iload_n (pc := 26) dX8_evenNow_26 rfl rfl ?_
          refine J_aload_n (pc := 27) dX8_evenNow_27 rfl rfl rfl ?_
          refine J_aload_n (pc := 28) dX8_evenNow_28 rfl rfl rfl ?_
          refine J_get (pc := 29) (k := 2) dX8_evenNow_29 kC9 (by decide) ff_X8_17 h19_12 rfl ?_
          refine J_iconst (pc := 32) (v := nI 0) dX8_evenNow_32 (by decide) ?_
          refine J_callV0 (pc := 33) (M := mX8_evenNow) (as := [.ref 21, .int (nI 0)]) dX8_evenNow_33 fw_X8_signOf fl_X8_115 fm_X8_signOf fe_X8_signOf h19_12 (by decide) rfl rfl rfl (c_X8_signOf_at21x hs (d := d - 1) (Nat.le_trans (by decide) hdm) (w := w12) (n := n) (mv := mv) (rw := rw12) (nx := nx1) (b := b1) (bt := bt1) (kn := kn1) (en := en1) (dn := dn) (rf := rf) (kk := kk) (th := th) ⟨h19_12, h20_12, h21_12, h22_12, hbb_12, hbl_12, hb3_12⟩ hn1 hn2 gm hgrw12 hgnx1 0 (by first | assumption | omega) (kc := 0) (ks := 0)) hdp (st := [.int (nI z2)]) (Nat.le_of_ble_eq_true rfl) rfl (kr_P fun v13 hv13 => ?_) kx_I
          have hsg := hv13.trans (sg_row (by omega) hn2 hrow).symm
          refine J_iconst (pc := 36) (v := nI 1) dX8_evenNow_36 (by decide) ?_
          refine J_icmp_ne (pc := 37) (tgt := 44) dX8_evenNow_37 (by decide) (fun ht14 => ?_) (fun hf15 => ?_)
          · refine J_iconst (pc := 44) (v := nI 0) dX8_evenNow_44 (by decide) ?_
            refine J_iaddN (pc := 45) dX8_evenNow_45 ?_
            refine J_istore_n (pc := 46) dX8_evenNow_46 rfl (by decide) rfl ?_
            show J X mX8_evenNow d (kc - 13) (ks - 2054) 47 [some (.ref 19), some (.int (nI s)), some (.int (nI (z2 + 0))), some (.int (nI (c3 - 1)))] [] w12 _
            have hst : CTt bt1 (fun k => sg n (XM n k) = nI 1) (z2 + 0) (c3 - 1 + 1) := by first | exact CTt_y hprev hb13 (hsg.symm.trans (by assumption)) | exact CTt_n hprev (fun e => absurd (hsg.trans e) (by assumption))
            refine J_aload_n (pc := 47) dX8_evenNow_47 rfl rfl rfl ?_
            refine J_iload_n (pc := 48) dX8_evenNow_48 rfl rfl ?_
            refine J_iconst (pc := 49) (v := nI 1) dX8_evenNow_49 (by decide) ?_
            refine J_iaddN (pc := 50) dX8_evenNow_50 ?_
            refine J_callV0 (pc := 51) (M := mX8_evenNow) (as := [.int (nI ((c3 - 1) + 1))]) dX8_evenNow_51 fw_X8_from fl_X8_137 fm_X8_from fe_X8_from h19_12 (by decide) rfl rfl rfl (c_X8_from hs (d := d - 1) (Nat.le_trans (by decide) hdm) (w := w12) (n := n) (mv := mv) (rw := rw12) (nx := nx1) (b := b1) (bt := bt1) (kn := kn1) (en := en1) (dn := dn) (rf := rf) (kk := kk) (th := th) ⟨h19_12, h20_12, h21_12, h22_12, hbb_12, hbl_12, hb3_12⟩ hn1 hn2 gm hgrw12 hgnx1 ((c3 - 1) + 1) (by first | assumption | omega) (kc := 0) (ks := 0)) hdp (st := []) (Nat.le_of_ble_eq_true rfl) rfl (kr_P fun v16 hv16 => ?_) kx_I
            rcases hv16 with ⟨rfl, hk16_0⟩ | ⟨q16, rfl, hk16_0, hk16_1, hk16_2, hk16_3⟩
            · refine J_istore_n (pc := 54) dX8_evenNow_54 rfl (by decide) rfl ?_
              show J X mX8_evenNow d (kc - 13) (ks - 2054) 55 [some (.ref 19), some (.int (nI s)), some (.int (nI (z2 + 0))), some (.int (-1))] [] w12 _
              refine J_goto (pc := 55) (tgt := 13) dX8_evenNow_55 (by decide) ?_
              exact J_sub (L' := [some (.ref 19), some (.int (nI s)), some (.int (nI (z2 + 0))), some (.int (nI 0 + Int32.ofInt (-1)))]) ⟨rfl, ⟨rfl, ⟨rfl, ⟨(congrArg (fun z => some (Value.int z)) (by decide : (-1 : Int32) = nI 0 + Int32.ofInt (-1))), trivial⟩⟩⟩⟩ (ihlp13_3 w12 rw12 (z2 + 0) 0 ⟨h19_12, h20_12, h21_12, h22_12, hbb_12, hbl_12, hb3_12⟩ hF12 hgrw12 (by first | assumption | omega) (by intro h; first | (rw [Nat.add_sub_cancel]; assumption) | omega) (by first | exact KI_0 CTt_f hst (by omega) (by assumption) | exact KI_1 CTt_f hst (by omega) (by assumption)) (by exact mu_dec (by assumption) (by omega) (by omega) (by omega)))
            · refine J_istore_n (pc := 54) dX8_evenNow_54 rfl (by decide) rfl ?_
              show J X mX8_evenNow d (kc - 13) (ks - 2054) 55 [some (.ref 19), some (.int (nI s)), some (.int (nI (z2 + 0))), some (.int (nI q16))] [] w12 _
              refine J_goto (pc := 55) (tgt := 13) dX8_evenNow_55 (by decide) ?_
              exact J_sub (L' := [some (.ref 19), some (.int (nI s)), some (.int (nI (z2 + 0))), some (.int (nI (q16 + 1) + Int32.ofInt (-1)))]) ⟨rfl, ⟨rfl, ⟨rfl, ⟨(congrArg (fun z => some (Value.int z)) (nI_n1 q16)), trivial⟩⟩⟩⟩ (ihlp13_3 w12 rw12 (z2 + 0) (q16 + 1) ⟨h19_12, h20_12, h21_12, h22_12, hbb_12, hbl_12, hb3_12⟩ hF12 hgrw12 (by first | assumption | omega) (by intro h; first | (rw [Nat.add_sub_cancel]; assumption) | omega) (by first | exact KI_0 CTt_f hst (by omega) (by assumption) | exact KI_1 CTt_f hst (by omega) (by assumption)) (by exact mu_dec (by assumption) (by omega) (by omega) (by omega)))
          · refine J_iconst (pc := 40) (v := nI 1) dX8_evenNow_40 (by decide) ?_
            refine J_goto (pc := 41) (tgt := 45) dX8_evenNow_41 (by decide) ?_
            refine J_iaddN (pc := 45) dX8_evenNow_45 ?_
            refine J_istore_n (pc := 46) dX8_evenNow_46 rfl (by decide) rfl ?_
            show J X mX8_evenNow d (kc - 13) (ks - 2054) 47 [some (.ref 19), some (.int (nI s)), some (.int (nI (z2 + 1))), some (.int (nI (c3 - 1)))] [] w12 _
            have hst : CTt bt1 (fun k => sg n (XM n k) = nI 1) (z2 + 1) (c3 - 1 + 1) := by first | exact CTt_y hprev hb13 (hsg.symm.trans (by assumption)) | exact CTt_n hprev (fun e => absurd (hsg.trans e) (by assumption))
            refine J_aload_n (pc := 47) dX8_evenNow_47 rfl rfl rfl ?_
            refine J_iload_n (pc := 48) dX8_evenNow_48 rfl rfl ?_
            refine J_iconst (pc := 49) (v := nI 1) dX8_evenNow_49 (by decide) ?_
            refine J_iaddN (pc := 50) dX8_evenNow_50 ?_
            refine J_callV0 (pc := 51) (M := mX8_evenNow) (as := [.int (nI ((c3 - 1) + 1))]) dX8_evenNow_51 fw_X8_from fl_X8_137 fm_X8_from fe_X8_from h19_12 (by decide) rfl rfl rfl (c_X8_from hs (d := d - 1) (Nat.le_trans (by decide) hdm) (w := w12) (n := n) (mv := mv) (rw := rw12) (nx := nx1) (b := b1) (bt := bt1) (kn := kn1) (en := en1) (dn := dn) (rf := rf) (kk := kk) (th := th) ⟨h19_12, h20_12, h21_12, h22_12, hbb_12, hbl_12, hb3_12⟩ hn1 hn2 gm hgrw12 hgnx1 ((c3 - 1) + 1) (by first | assumption | omega) (kc := 0) (ks := 0)) hdp (st := []) (Nat.le_of_ble_eq_true rfl) rfl (kr_P fun v17 hv17 => ?_) kx_I
            rcases hv17 with ⟨rfl, hk17_0⟩ | ⟨q17, rfl, hk17_0, hk17_1, hk17_2, hk17_3⟩
            · refine J_istore_n (pc := 54) dX8_evenNow_54 rfl (by decide) rfl ?_
              show J X mX8_evenNow d (kc - 13) (ks - 2054) 55 [some (.ref 19), some (.int (nI s)), some (.int (nI (z2 + 1))), some (.int (-1))] [] w12 _
              refine J_goto (pc := 55) (tgt := 13) dX8_evenNow_55 (by decide) ?_
              exact J_sub (L' := [some (.ref 19), some (.int (nI s)), some (.int (nI (z2 + 1))), some (.int (nI 0 + Int32.ofInt (-1)))]) ⟨rfl, ⟨rfl, ⟨rfl, ⟨(congrArg (fun z => some (Value.int z)) (by decide : (-1 : Int32) = nI 0 + Int32.ofInt (-1))), trivial⟩⟩⟩⟩ (ihlp13_3 w12 rw12 (z2 + 1) 0 ⟨h19_12, h20_12, h21_12, h22_12, hbb_12, hbl_12, hb3_12⟩ hF12 hgrw12 (by first | assumption | omega) (by intro h; first | (rw [Nat.add_sub_cancel]; assumption) | omega) (by first | exact KI_0 CTt_f hst (by omega) (by assumption) | exact KI_1 CTt_f hst (by omega) (by assumption)) (by exact mu_dec (by assumption) (by omega) (by omega) (by omega)))
            · refine J_istore_n (pc := 54) dX8_evenNow_54 rfl (by decide) rfl ?_
              show J X mX8_evenNow d (kc - 13) (ks - 2054) 55 [some (.ref 19), some (.int (nI s)), some (.int (nI (z2 + 1))), some (.int (nI q17))] [] w12 _
              refine J_goto (pc := 55) (tgt := 13) dX8_evenNow_55 (by decide) ?_
              exact J_sub (L' := [some (.ref 19), some (.int (nI s)), some (.int (nI (z2 + 1))), some (.int (nI (q17 + 1) + Int32.ofInt (-1)))]) ⟨rfl, ⟨rfl, ⟨rfl, ⟨(congrArg (fun z => some (Value.int z)) (nI_n1 q17)), trivial⟩⟩⟩⟩ (ihlp13_3 w12 rw12 (z2 + 1) (q17 + 1) ⟨h19_12, h20_12, h21_12, h22_12, hbb_12, hbl_12, hb3_12⟩ hF12 hgrw12 (by first | assumption | omega) (by intro h; first | (rw [Nat.add_sub_cancel]; assumption) | omega) (by first | exact KI_0 CTt_f hst (by omega) (by assumption) | exact KI_1 CTt_f hst (by omega) (by assumption)) (by exact mu_dec (by assumption) (by omega) (by omega) (by omega)))
    exact J_sub (L' := [some (.ref 19), some (.int (nI s)), some (.int (nI 0)), some (.int (nI 0 + Int32.ofInt (-1)))]) ⟨rfl, ⟨rfl, ⟨rfl, ⟨(congrArg (fun z => some (Value.int z)) (by decide : (-1 : Int32) = nI 0 + Int32.ofInt (-1))), trivial⟩⟩⟩⟩ (lp13_3 _ w1 rw1 0 0 ⟨h19_1, h20_1, h21_1, h22_1, hbb_1, hbl_1, hb3_1⟩ hF1 hgrw1 (by first | assumption | omega) (by intro h; first | (rw [Nat.add_sub_cancel]; assumption) | omega) (by first | exact KI_0 CTt_f CTt_0 (Nat.zero_le _) (by assumption) | exact KI_1 CTt_f CTt_0 (Nat.zero_le _) (by assumption)) (Nat.lt_succ_self _))
  · refine J_istore_n (pc := 12) dX8_evenNow_12 rfl (by decide) rfl ?_
    show J X mX8_evenNow d (kc - 13) (ks - 2054) 13 [some (.ref 19), some (.int (nI s)), some (.int (nI 0)), some (.int (nI q2))] [] w1 _
    have lp13_18 : ∀ (fuel : Nat) (w19 : List jC) (rw_13 : Nat → Nat) (z2 : Nat) (c3 : Nat), (RM n mv rw_13 nx1 b1 bt1 kn1 en1 dn rf kk th w19) → (FR b b1 w w19) → (∀ i, rw_13 i < 7) → (c3 ≤ fc n) → (0 < c3 → bitL bt1 (c3 - 1) = true) → (CTt bt1 (fun k => sg n (XM n k) = nI 1) z2 (KK (fc n) c3)) → (mu (fc n) c3 < fuel) → J X mX8_evenNow d (kc - 13) (ks - 2054) 13 [some (.ref 19), some (.int (nI s)), some (.int (nI z2)), some (.int (nI c3 + Int32.ofInt (-1)))] [] w19 (pI (fun v => v = nI (cd n (fun x => (Gg n (gS (mW n mv) s 6)) x ∧ sg n x = nI 1))) (fun w' => ∃ (rw' : Nat → Nat), ∃ (nx' : Nat → Nat), ∃ (b' : Nat), ∃ (bt' : List Int32), ∃ (kn' : Int32), ∃ (en' : Int32), RM n mv rw' nx' b' bt' kn' en' dn rf kk th w' ∧ FR b b' w w' ∧ (∀ i, rw' i < 7) ∧ (∀ i, nx' i < 7) ∧ kn' = nI s ∧ BX n mv s bt' en')) := by
      intro fuellp13_18
      induction fuellp13_18 with
      | zero => intros; omega
      | succ fuellp13_18 ihlp13_18 =>
        intro w19 rw_13 z2 c3 hR20 hF21 gr22 hv13_0 hv13_1 hv13_2 hf23
        obtain ⟨h19_24, h20_24, h21_24, h22_24, hb_24, hbl_24, hb3_24⟩ := hR20
        refine J_iload_n (pc := 13) dX8_evenNow_13 rfl rfl ?_
        refine J_if_ltM (pc := 14) (tgt := 58) dX8_evenNow_14 (by decide) (by omega) (fun ht25 => ?_) (fun hf26 => ?_)
        · refine J_iload_n (pc := 58) dX8_evenNow_58 rfl rfl ?_
          exact J_iret (pc := 59) dX8_evenNow_59 rfl ⟨(congrArg nI (by exact CTt_end hBX (fun k hk => Iff.rfl) (by have h := hv13_2; rw [show c3 = 0 by omega, KK_0] at h; exact h))), ⟨rw_13, nx1, b1, bt1, kn1, en1, ⟨h19_24, h20_24, h21_24, h22_24, hb_24, hbl_24, hb3_24⟩, hF21, gr22, hgnx1, (by first | rfl | assumption), (by first | assumption | exact hBX)⟩⟩
        · rw [nI_m1 hf26]
          have hb13 := hv13_1 (by omega)
          have hprev : CTt bt1 (fun k => sg n (XM n k) = nI 1) z2 (c3 - 1) := by
            have h := hv13_2
            rw [KK_p (by omega)] at h
            exact h
          refine J_aload_n (pc := 17) dX8_evenNow_17 rfl rfl rfl ?_
          refine J_iload_n (pc := 18) dX8_evenNow_18 rfl rfl ?_
          refine J_aload_n (pc := 19) dX8_evenNow_19 rfl rfl rfl ?_
          refine J_get (pc := 20) (k := 2) dX8_evenNow_20 kC9 (by decide) ff_X8_17 h19_24 rfl ?_
          refine J_callV0 (pc := 23) (M := mX8_evenNow) (as := [.int (nI (c3 - 1)), .ref 21]) dX8_evenNow_23 fw_X8_rowOf fl_X8_78 fm_X8_rowOf fe_X8_rowOf h19_24 (by decide) rfl rfl rfl (c_X8_rowOf hs (d := d - 1) (Nat.le_trans (by decide) hdm) (w := w19) (n := n) (mv := mv) (rw := rw_13) (nx := nx1) (b := b1) (bt := bt1) (kn := kn1) (en := en1) (dn := dn) (rf := rf) (kk := kk) (th := th) ⟨h19_24, h20_24, h21_24, h22_24, hb_24, hbl_24, hb3_24⟩ hn1 hn2 gm gr22 hgnx1 (c3 - 1) (by first | assumption | omega) (kc := 0) (ks := 0)) hdp (st := []) (Nat.le_of_ble_eq_true rfl) rfl (kr_V fun w27 hw27 => ?_) kx_V
          obtain ⟨rw27, hR27, hFc27, hgrw27, hp27_0⟩ := hw27
          obtain ⟨h19_27, h20_27, h21_27, h22_27, hbb_27, hbl_27, hb3_27⟩ := hR27
          have hF27 := hF21.tr hFc27
          have hrow := hp27_0
          refine J_iload_n (pc := 26) dX8_evenNow_26 rfl rfl ?_
          refine J_aload_n (pc := 27) dX8_evenNow_27 rfl rfl rfl ?_
          refine J_aload_n (pc := 28) dX8_evenNow_28 rfl rfl rfl ?_
          refine J_get (pc := 29) (k := 2) dX8_evenNow_29 kC9 (by decide) ff_X8_17 h19_27 rfl ?_
          refine J_iconst (pc := 32) (v := nI 0) dX8_evenNow_32 (by decide) ?_
          refine J_callV0 (pc := 33) (M := mX8_evenNow) (as := [.ref 21, .int (nI 0)]) dX8_evenNow_33 fw_X8_signOf fl_X8_115 fm_X8_signOf fe_X8_signOf h19_27 (by decide) rfl rfl rfl (c_X8_signOf_at21x hs (d := d - 1) (Nat.le_trans (by decide) hdm) (w := w27) (n := n) (mv := mv) (rw := rw27) (nx := nx1) (b := b1) (bt := bt1) (kn := kn1) (en := en1) (dn := dn) (rf := rf) (kk := kk) (th := th) ⟨h19_27, h20_27, h21_27, h22_27, hbb_27, hbl_27, hb3_27⟩ hn1 hn2 gm hgrw27 hgnx1 0 (by first | assumption | omega) (kc := 0) (ks := 0)) hdp (st := [.int (nI z2)]) (Nat.le_of_ble_eq_true rfl) rfl (kr_P fun v28 hv28 => ?_) kx_I
          have hsg := hv28.trans (sg_row (by omega) hn2 hrow).symm
          refine J_iconst (pc := 36) (v := nI 1) dX8_evenNow_36 (by decide) ?_
          refine J_icmp_ne (pc := 37) (tgt := 44) dX8_evenNow_37 (by decide) (fun ht29 => ?_) (fun hf30 => ?_)
          · refine J_iconst (pc := 44) (v := nI 0) dX8_evenNow_44 (by decide) ?_
            refine J_iaddN (pc := 45) dX8_evenNow_45 ?_
            refine J_istore_n (pc := 46) dX8_evenNow_46 rfl (by decide) rfl ?_
            show J X mX8_evenNow d (kc - 13) (ks - 2054) 47 [some (.ref 19), some (.int (nI s)), some (.int (nI (z2 + 0))), some (.int (nI (c3 - 1)))] [] w27 _
            have hst : CTt bt1 (fun k => sg n (XM n k) = nI 1) (z2 + 0) (c3 - 1 + 1) := by first | exact CTt_y hprev hb13 (hsg.symm.trans (by assumption)) | exact CTt_n hprev (fun e => absurd (hsg.trans e) (by assumption))
            refine J_aload_n (pc := 47) dX8_evenNow_47 rfl rfl rfl ?_
            refine J_iload_n (pc := 48) dX8_evenNow_48 rfl rfl ?_
            refine J_iconst (pc := 49) (v := nI 1) dX8_evenNow_49 (by decide) ?_
            refine J_iaddN (pc := 50) dX8_evenNow_50 ?_
            refine J_callV0 (pc := 51) (M := mX8_evenNow) (as := [.int (nI ((c3 - 1) + 1))]) dX8_evenNow_51 fw_X8_from fl_X8_137 fm_X8_from fe_X8_from h19_27 (by decide) rfl rfl rfl (c_X8_from hs (d := d - 1) (Nat.le_trans (by decide) hdm) (w := w27) (n := n) (mv := mv) (rw := rw27) (nx := nx1) (b := b1) (bt := bt1) (kn := kn1) (en := en1) (dn := dn) (rf := rf) (kk := kk) (th := th) ⟨h19_27, h20_27, h21_27, h22_27, hbb_27, hbl_27, hb3_27⟩ hn1 hn2 gm hgrw27 hgnx1 ((c3 - 1) + 1) (by first | assumption | omega) (kc := 0) (ks := 0)) hdp (st := []) (Nat.le_of_ble_eq_true rfl) rfl (kr_P fun v31 hv31 => ?_) kx_I
            rcases hv31 with ⟨rfl, hk31_0⟩ | ⟨q31, rfl, hk31_0, hk31_1, hk31_2, hk31_3⟩
            · refine J_istore_n (pc := 54) dX8_evenNow_54 rfl (by decide) rfl ?_
              show J X mX8_evenNow d (kc - 13) (ks - 2054) 55 [some (.ref 19), some (.int (nI s)), some (.int (nI (z2 + 0))), some (.int (-1))] [] w27 _
              refine J_goto (pc := 55) (tgt := 13) dX8_evenNow_55 (by decide) ?_
              exact J_sub (L' := [some (.ref 19), some (.int (nI s)), some (.int (nI (z2 + 0))), some (.int (nI 0 + Int32.ofInt (-1)))]) ⟨rfl, ⟨rfl, ⟨rfl, ⟨(congrArg (fun z => some (Value.int z)) (by decide : (-1 : Int32) = nI 0 + Int32.ofInt (-1))), trivial⟩⟩⟩⟩ (ihlp13_18 w27 rw27 (z2 + 0) 0 ⟨h19_27, h20_27, h21_27, h22_27, hbb_27, hbl_27, hb3_27⟩ hF27 hgrw27 (by first | assumption | omega) (by intro h; first | (rw [Nat.add_sub_cancel]; assumption) | omega) (by first | exact KI_0 CTt_f hst (by omega) (by assumption) | exact KI_1 CTt_f hst (by omega) (by assumption)) (by exact mu_dec (by assumption) (by omega) (by omega) (by omega)))
            · refine J_istore_n (pc := 54) dX8_evenNow_54 rfl (by decide) rfl ?_
              show J X mX8_evenNow d (kc - 13) (ks - 2054) 55 [some (.ref 19), some (.int (nI s)), some (.int (nI (z2 + 0))), some (.int (nI q31))] [] w27 _
              refine J_goto (pc := 55) (tgt := 13) dX8_evenNow_55 (by decide) ?_
              exact J_sub (L' := [some (.ref 19), some (.int (nI s)), some (.int (nI (z2 + 0))), some (.int (nI (q31 + 1) + Int32.ofInt (-1)))]) ⟨rfl, ⟨rfl, ⟨rfl, ⟨(congrArg (fun z => some (Value.int z)) (nI_n1 q31)), trivial⟩⟩⟩⟩ (ihlp13_18 w27 rw27 (z2 + 0) (q31 + 1) ⟨h19_27, h20_27, h21_27, h22_27, hbb_27, hbl_27, hb3_27⟩ hF27 hgrw27 (by first | assumption | omega) (by intro h; first | (rw [Nat.add_sub_cancel]; assumption) | omega) (by first | exact KI_0 CTt_f hst (by omega) (by assumption) | exact KI_1 CTt_f hst (by omega) (by assumption)) (by exact mu_dec (by assumption) (by omega) (by omega) (by omega)))
          · refine J_iconst (pc := 40) (v := nI 1) dX8_evenNow_40 (by decide) ?_
            refine J_goto (pc := 41) (tgt := 45) dX8_evenNow_41 (by decide) ?_
            refine J_iaddN (pc := 45) dX8_evenNow_45 ?_
            refine J_istore_n (pc := 46) dX8_evenNow_46 rfl (by decide) rfl ?_
            show J X mX8_evenNow d (kc - 13) (ks - 2054) 47 [some (.ref 19), some (.int (nI s)), some (.int (nI (z2 + 1))), some (.int (nI (c3 - 1)))] [] w27 _
            have hst : CTt bt1 (fun k => sg n (XM n k) = nI 1) (z2 + 1) (c3 - 1 + 1) := by first | exact CTt_y hprev hb13 (hsg.symm.trans (by assumption)) | exact CTt_n hprev (fun e => absurd (hsg.trans e) (by assumption))
            refine J_aload_n (pc := 47) dX8_evenNow_47 rfl rfl rfl ?_
            refine J_iload_n (pc := 48) dX8_evenNow_48 rfl rfl ?_
            refine J_iconst (pc := 49) (v := nI 1) dX8_evenNow_49 (by decide) ?_
            refine J_iaddN (pc := 50) dX8_evenNow_50 ?_
            refine J_callV0 (pc := 51) (M := mX8_evenNow) (as := [.int (nI ((c3 - 1) + 1))]) dX8_evenNow_51 fw_X8_from fl_X8_137 fm_X8_from fe_X8_from h19_27 (by decide) rfl rfl rfl (c_X8_from hs (d := d - 1) (Nat.le_trans (by decide) hdm) (w := w27) (n := n) (mv := mv) (rw := rw27) (nx := nx1) (b := b1) (bt := bt1) (kn := kn1) (en := en1) (dn := dn) (rf := rf) (kk := kk) (th := th) ⟨h19_27, h20_27, h21_27, h22_27, hbb_27, hbl_27, hb3_27⟩ hn1 hn2 gm hgrw27 hgnx1 ((c3 - 1) + 1) (by first | assumption | omega) (kc := 0) (ks := 0)) hdp (st := []) (Nat.le_of_ble_eq_true rfl) rfl (kr_P fun v32 hv32 => ?_) kx_I
            rcases hv32 with ⟨rfl, hk32_0⟩ | ⟨q32, rfl, hk32_0, hk32_1, hk32_2, hk32_3⟩
            · refine J_istore_n (pc := 54) dX8_evenNow_54 rfl (by decide) rfl ?_
              show J X mX8_evenNow d (kc - 13) (ks - 2054) 55 [some (.ref 19), some (.int (nI s)), some (.int (nI (z2 + 1))), some (.int (-1))] [] w27 _
              refine J_goto (pc := 55) (tgt := 13) dX8_evenNow_55 (by decide) ?_
              exact J_sub (L' := [some (.ref 19), some (.int (nI s)), some (.int (nI (z2 + 1))), some (.int (nI 0 + Int32.ofInt (-1)))]) ⟨rfl, ⟨rfl, ⟨rfl, ⟨(congrArg (fun z => some (Value.int z)) (by decide : (-1 : Int32) = nI 0 + Int32.ofInt (-1))), trivial⟩⟩⟩⟩ (ihlp13_18 w27 rw27 (z2 + 1) 0 ⟨h19_27, h20_27, h21_27, h22_27, hbb_27, hbl_27, hb3_27⟩ hF27 hgrw27 (by first | assumption | omega) (by intro h; first | (rw [Nat.add_sub_cancel]; assumption) | omega) (by first | exact KI_0 CTt_f hst (by omega) (by assumption) | exact KI_1 CTt_f hst (by omega) (by assumption)) (by exact mu_dec (by assumption) (by omega) (by omega) (by omega)))
            · refine J_istore_n (pc := 54) dX8_evenNow_54 rfl (by decide) rfl ?_
              show J X mX8_evenNow d (kc - 13) (ks - 2054) 55 [some (.ref 19), some (.int (nI s)), some (.int (nI (z2 + 1))), some (.int (nI q32))] [] w27 _
              refine J_goto (pc := 55) (tgt := 13) dX8_evenNow_55 (by decide) ?_
              exact J_sub (L' := [some (.ref 19), some (.int (nI s)), some (.int (nI (z2 + 1))), some (.int (nI (q32 + 1) + Int32.ofInt (-1)))]) ⟨rfl, ⟨rfl, ⟨rfl, ⟨(congrArg (fun z => some (Value.int z)) (nI_n1 q32)), trivial⟩⟩⟩⟩ (ihlp13_18 w27 rw27 (z2 + 1) (q32 + 1) ⟨h19_27, h20_27, h21_27, h22_27, hbb_27, hbl_27, hb3_27⟩ hF27 hgrw27 (by first | assumption | omega) (by intro h; first | (rw [Nat.add_sub_cancel]; assumption) | omega) (by first | exact KI_0 CTt_f hst (by omega) (by assumption) | exact KI_1 CTt_f hst (by omega) (by assumption)) (by exact mu_dec (by assumption) (by omega) (by omega) (by omega)))
    exact J_sub (L' := [some (.ref 19), some (.int (nI s)), some (.int (nI 0)), some (.int (nI (q2 + 1) + Int32.ofInt (-1)))]) ⟨rfl, ⟨rfl, ⟨rfl, ⟨(congrArg (fun z => some (Value.int z)) (nI_n1 q2)), trivial⟩⟩⟩⟩ (lp13_18 _ w1 rw1 0 (q2 + 1) ⟨h19_1, h20_1, h21_1, h22_1, hbb_1, hbl_1, hb3_1⟩ hF1 hgrw1 (by first | assumption | omega) (by intro h; first | (rw [Nat.add_sub_cancel]; assumption) | omega) (by first | exact KI_0 CTt_f CTt_0 (Nat.zero_le _) (by assumption) | exact KI_1 CTt_f CTt_0 (Nat.zero_le _) (by assumption)) (Nat.lt_succ_self _))
end
section
/-! where points come to, parts: the reference, exactly -/
/-- the labels that were seen -/
def LBs (rw : Nat → Nat) (z c : Nat) : Prop := z < 2 ^ 7 ∧ ∀ v, z.testBit v = true ↔ ∃ p, p < c ∧ rw p = v
theorem LBs_0 {rw : Nat → Nat} : LBs rw 0 0 := ⟨by decide, fun v => by
  rw [Nat.zero_testBit]
  exact ⟨fun h => absurd h (by decide), fun ⟨p, hp, _⟩ => absurd hp (Nat.not_lt_zero p)⟩⟩
theorem LBs_s {rw : Nat → Nat} {z c : Nat} (h : LBs rw z c) (h7 : rw c < 7) : LBs rw (z ||| 2 ^ rw c) (c + 1) := ⟨Nat.or_lt_two_pow h.1 (Nat.pow_lt_pow_right (by decide) h7), fun v => by
  rw [set_bit, Bool.or_eq_true, h.2 v, decide_eq_true_eq]
  constructor
  · rintro (⟨p, hp, e⟩ | e)
    · exact ⟨p, by omega, e⟩
    · exact ⟨c, Nat.lt_succ_self c, e⟩
  · rintro ⟨p, hp, e⟩
    by_cases q : p = c
    · rw [q] at e; exact Or.inr e
    · exact Or.inl ⟨p, by omega, e⟩⟩
theorem blk_ct {n : Nat} {rw : Nat → Nat} {B : Nat → Nat → Prop} {z c : Nat} (h1 : 1 ≤ n) (hn : n ≤ 7) (hl : RLb n rw) (hr : ∀ p q, p < n → q < n → (rw p = rw q ↔ B p q)) (hz : LBs rw z c) (hc : c = n) : pc32 (nI z) = ct (fun p => ∀ q, q < p → ¬ B p q) n := by
  subst hc
  rw [pc32_nI (Nat.lt_trans hz.1 (by decide))]
  have hb : ∀ v, z.testBit v = true ↔ (v < c ∧ rw v = v) := fun v => (hz.2 v).trans ⟨fun ⟨p, hp, e⟩ => by rw [← e]; exact hl p hp, fun ⟨hv, e⟩ => ⟨v, hv, e⟩⟩
  have e1 : cnt (fun v => z.testBit v) 32 = cnt (fun v => z.testBit v) c := by
    have := cnt_ext (n := c) (P := fun v => z.testBit v) (fun i hi => bt_f (fun g => by have := ((hb i).mp g).1; omega)) (32 - c)
    rw [show c + (32 - c) = 32 by omega] at this
    exact this
  have e2 : ct (fun p => rw p = p) c = cnt (fun v => z.testBit v) c := ct_cnt c (fun p hp => ⟨fun e => (hb p).mpr ⟨hp, e⟩, fun e => ((hb p).mp e).2⟩)
  rw [e1, ← e2, rep_ct (E := fun p q => rw p = rw q) (F := fun p => rw p = p) (G := fun p => ∀ q, q < p → ¬ rw p = rw q) (fun p q e => e.symm) (fun p hp => ⟨rw p, (hl p hp).1, (hl p hp).2, (hl p hp).2.symm, fun w _ e1 e2 => (e2.trans e1).symm⟩) (fun p hp => by
    obtain ⟨m, m1, m2, m3⟩ := lst_ex (rw := rw) p p (Nat.le_refl p)
    refine ⟨m, by omega, m3, m2, fun w _ w1 w2 => ?_⟩
    by_cases q : w = m
    · exact q
    · by_cases q2 : w < m
      · exact absurd (m2.symm.trans w2) (m3 w q2)
      · exact absurd (w2.symm.trans m2) (w1 m (by omega)))]
  exact ct_iff (fun p hp => ⟨fun h q hq e => h q hq ((hr p q hp (by omega)).mpr e), fun h q hq e => h q hq ((hr p q hp (by omega)).mp e)⟩)
set_option maxRecDepth 100000 in
set_option maxHeartbeats 40000000 in
theorem c_X8_comesNow_atx {X : jX} (hs : X.1.stackTraces = false) {d : Nat} (hd : 1 ≤ d) {n : Nat} {mv rw nx : Nat → Nat} {b : Nat} {bt : List Int32} {kn en dn rf kk th : Int32} {w : List jC} (hR : RM n mv rw nx b bt kn en dn rf kk th w) (hn1 : 2 ≤ n) (hn2 : n ≤ 7) (gm : ∀ i, mv i < 7) (gr : ∀ i, rw i < 7) (gx : ∀ i, nx i < 7) (s : Nat) (a : Nat) (hy0 : s < 64) (hy1 : a < n) (hy2 : PM n mv) {kc ks : Nat} : jMet X mX8_comesNow d kc ks [.ref 19, .int (nI s), .int (nI a)] w (pI (fun v => v = nI (sBv (Omr n mv s a) n)) (fun w' => w' = w)) := by
  refine jMet_of hs (by decide +kernel) (Nat.le_of_ble_eq_true rfl) (L := [some (.ref 19), some (.int (nI s)), some (.int (nI a)), none, none, none, none]) rfl ?_
  have hdm : 0 ≤ d - 1 := by omega
  have hdp : d - 1 + 1 ≤ d := by omega
  have hfc := fc_7 hn2
  have hfp := fc_pos n
  obtain ⟨h19, h20, h21, h22, hbb, hbl, hb3⟩ := hR
  have hF : FR b b w w := FR.rf
  refine J_iconst (pc := 0) (v := nI 1) dX8_comesNow_0 (by decide) ?_
  refine J_iload_n (pc := 1) dX8_comesNow_1 rfl rfl ?_
  have h2a : 2 ^ a < 2 ^ 31 := Nat.pow_lt_pow_right (by decide) (by omega)
  refine J_shlOne (pc := 2) dX8_comesNow_2 (by omega) ?_
  refine J_istore_n (pc := 3) dX8_comesNow_3 rfl (by decide) rfl ?_
  show J X mX8_comesNow d kc ks 4 [some (.ref 19), some (.int (nI s)), some (.int (nI a)), some (.int (nI (2 ^ a))), none, none, none] [] w _
  refine J_iconst (pc := 4) (v := nI 0) dX8_comesNow_4 (by decide) ?_
  refine J_istore (pc := 5) dX8_comesNow_5 (by decide) rfl ?_
  show J X mX8_comesNow d kc ks 7 [some (.ref 19), some (.int (nI s)), some (.int (nI a)), some (.int (nI (2 ^ a))), some (.int (nI 0)), none, none] [] w _
  have lp7_1 : ∀ (fuel : Nat) (z3 : Nat) (c4 : Nat), (CW n mv s a z3 c4) → (c4 ≤ n) → (n - c4 < fuel) → J X mX8_comesNow d kc ks 7 [some (.ref 19), some (.int (nI s)), some (.int (nI a)), some (.int (nI z3)), some (.int (nI c4)), none, none] [] w (pI (fun v => v = nI (sBv (Omr n mv s a) n)) (fun w' => w' = w)) := by
    intro fuellp7_1
    induction fuellp7_1 with
    | zero => intros; omega
    | succ fuellp7_1 ihlp7_1 =>
      intro z3 c4 hv7_0 hv7_1 hf2
      refine J_iload (pc := 7) dX8_comesNow_7 rfl ?_
      refine J_aload_n (pc := 9) dX8_comesNow_9 rfl rfl rfl ?_
      refine J_get (pc := 10) (k := 0) dX8_comesNow_10 kC9 (by decide) ff_X8_7 h19 rfl ?_
      refine J_icmp_geN (pc := 13) (tgt := 91) dX8_comesNow_13 (by decide) (by omega) (by omega) (fun ht3 => ?_) (fun hf4 => ?_)
      · refine J_iload_n (pc := 91) dX8_comesNow_91 rfl rfl ?_
        exact J_iret (pc := 92) dX8_comesNow_92 rfl ⟨(congrArg nI (by exact CW_end hn2 hv7_0 (by omega))), rfl⟩
      · refine J_iconst (pc := 16) (v := nI 0) dX8_comesNow_16 (by decide) ?_
        refine J_istore (pc := 17) dX8_comesNow_17 (by decide) rfl ?_
        show J X mX8_comesNow d kc ks 19 [some (.ref 19), some (.int (nI s)), some (.int (nI a)), some (.int (nI z3)), some (.int (nI c4)), some (.int (nI 0)), none] [] w _
        have lp19_5 : ∀ (fuel : Nat) (y3 : Nat) (c5 : Nat), (CV n mv s a z3 y3 c5) → (c5 ≤ 6) → (6 - c5 < fuel) → J X mX8_comesNow d kc ks 19 [some (.ref 19), some (.int (nI s)), some (.int (nI a)), some (.int (nI y3)), some (.int (nI c4)), some (.int (nI c5)), none] [] w (pI (fun v => v = nI (sBv (Omr n mv s a) n)) (fun w' => w' = w)) := by
          intro fuellp19_5
          induction fuellp19_5 with
          | zero => intros; omega
          | succ fuellp19_5 ihlp19_5 =>
            intro y3 c5 hv19_0 hv19_1 hf6
            refine J_iload (pc := 19) dX8_comesNow_19 rfl ?_
            refine J_bipush (pc := 21) (v := nI 6) dX8_comesNow_21 (by decide) ?_
            refine J_icmp_geN (pc := 23) (tgt := 85) dX8_comesNow_23 (by decide) (by omega) (by omega) (fun ht7 => ?_) (fun hf8 => ?_)
            · refine J_iincN (pc := 85) (b := 1) dX8_comesNow_85 rfl (by decide) (by decide) rfl ?_
              show J X mX8_comesNow d kc ks 88 [some (.ref 19), some (.int (nI s)), some (.int (nI a)), some (.int (nI y3)), some (.int (nI (c4 + 1))), some (.int (nI c5)), none] [] w _
              refine J_goto (pc := 88) (tgt := 7) dX8_comesNow_88 (by decide) ?_
              exact J_sub (L' := [some (.ref 19), some (.int (nI s)), some (.int (nI a)), some (.int (nI y3)), some (.int (nI (c4 + 1))), none, none]) ⟨rfl, ⟨rfl, ⟨rfl, ⟨rfl, ⟨rfl, trivial⟩⟩⟩⟩⟩ (ihlp7_1 y3 (c4 + 1) (by exact CW_s hv7_0 hv19_0 (by omega)) (by first | assumption | omega) (by omega))
            · refine J_iload_n (pc := 26) dX8_comesNow_26 rfl rfl ?_
              refine J_iload (pc := 27) dX8_comesNow_27 rfl ?_
              refine J_ishrN (pc := 29) dX8_comesNow_29 (by omega) (by omega) ?_
              refine J_iconst (pc := 30) (v := nI 1) dX8_comesNow_30 (by decide) ?_
              have hm9 := Nat.mod_lt (s / 2 ^ c5) (show 0 < 2 ^ 1 by decide)
              have hm10 := Nat.div_le_self s (2 ^ c5)
              refine J_iandN (pc := 31) 1 dX8_comesNow_31 (by omega) (by decide) ?_
              refine J_if_neN (pc := 32) (tgt := 38) dX8_comesNow_32 (by decide) (by omega) (fun ht11 => ?_) (fun hf12 => ?_)
              · refine J_iconst (pc := 38) (v := nI 0) dX8_comesNow_38 (by decide) ?_
                refine J_istore (pc := 39) dX8_comesNow_39 (by decide) rfl ?_
                show J X mX8_comesNow d kc ks 41 [some (.ref 19), some (.int (nI s)), some (.int (nI a)), some (.int (nI y3)), some (.int (nI c4)), some (.int (nI c5)), some (.int (nI 0))] [] w _
                have lp41_13 : ∀ (fuel : Nat) (x3 : Nat) (c6 : Nat), (CU n mv s a z3 x3 c5 c6) → (c6 ≤ n) → (n - c6 < fuel) → J X mX8_comesNow d kc ks 41 [some (.ref 19), some (.int (nI s)), some (.int (nI a)), some (.int (nI x3)), some (.int (nI c4)), some (.int (nI c5)), some (.int (nI c6))] [] w (pI (fun v => v = nI (sBv (Omr n mv s a) n)) (fun w' => w' = w)) := by
                  intro fuellp41_13
                  induction fuellp41_13 with
                  | zero => intros; omega
                  | succ fuellp41_13 ihlp41_13 =>
                    intro x3 c6 hv41_0 hv41_1 hf14
                    refine J_iload (pc := 41) dX8_comesNow_41 rfl ?_
                    refine J_aload_n (pc := 43) dX8_comesNow_43 rfl rfl rfl ?_
                    refine J_get (pc := 44) (k := 0) dX8_comesNow_44 kC9 (by decide) ff_X8_7 h19 rfl ?_
                    refine J_icmp_geN (pc := 47) (tgt := 79) dX8_comesNow_47 (by decide) (by omega) (by omega) (fun ht15 => ?_) (fun hf16 => ?_)
                    · refine J_iincN (pc := 79) (b := 1) dX8_comesNow_79 rfl (by decide) (by decide) rfl ?_
                      show J X mX8_comesNow d kc ks 82 [some (.ref 19), some (.int (nI s)), some (.int (nI a)), some (.int (nI x3)), some (.int (nI c4)), some (.int (nI (c5 + 1))), some (.int (nI c6))] [] w _
                      refine J_goto (pc := 82) (tgt := 19) dX8_comesNow_82 (by decide) ?_
                      exact J_sub (L' := [some (.ref 19), some (.int (nI s)), some (.int (nI a)), some (.int (nI x3)), some (.int (nI c4)), some (.int (nI (c5 + 1))), none]) ⟨rfl, ⟨rfl, ⟨rfl, ⟨rfl, ⟨rfl, ⟨rfl, trivial⟩⟩⟩⟩⟩⟩ (ihlp19_5 x3 (c5 + 1) (by first | exact CV_s hv41_0 (by omega) | exact CV_n hv19_0 (tb_0 (by omega))) (by first | assumption | omega) (by omega))
                    · have hm7 := hv41_0.1.1
                      refine J_iload_n (pc := 50) dX8_comesNow_50 rfl rfl ?_
                      refine J_iload (pc := 51) dX8_comesNow_51 rfl ?_
                      refine J_ishrN (pc := 53) dX8_comesNow_53 (by omega) (by omega) ?_
                      refine J_iconst (pc := 54) (v := nI 1) dX8_comesNow_54 (by decide) ?_
                      have hm17 := Nat.mod_lt (x3 / 2 ^ c6) (show 0 < 2 ^ 1 by decide)
                      have hm18 := Nat.div_le_self x3 (2 ^ c6)
                      refine J_iandN (pc := 55) 1 dX8_comesNow_55 (by omega) (by decide) ?_
                      refine J_iconst (pc := 56) (v := nI 1) dX8_comesNow_56 (by decide) ?_
                      refine J_icmp_neN (pc := 57) (tgt := 73) dX8_comesNow_57 (by decide) (by omega) (by omega) (fun ht19 => ?_) (fun hf20 => ?_)
                      · refine J_iincN (pc := 73) (b := 1) dX8_comesNow_73 rfl (by decide) (by decide) rfl ?_
                        show J X mX8_comesNow d kc ks 76 [some (.ref 19), some (.int (nI s)), some (.int (nI a)), some (.int (nI x3)), some (.int (nI c4)), some (.int (nI c5)), some (.int (nI (c6 + 1)))] [] w _
                        refine J_goto (pc := 76) (tgt := 41) dX8_comesNow_76 (by decide) ?_
                        exact J_sub (L' := [some (.ref 19), some (.int (nI s)), some (.int (nI a)), some (.int (nI x3)), some (.int (nI c4)), some (.int (nI c5)), some (.int (nI (c6 + 1)))]) ⟨rfl, ⟨rfl, ⟨rfl, ⟨rfl, ⟨rfl, ⟨rfl, ⟨rfl, trivial⟩⟩⟩⟩⟩⟩⟩ (ihlp41_13 x3 (c6 + 1) (by first | exact CU_y hv41_0 (tb_1 (by assumption)) (by omega) (by omega) (tb_1 (by omega)) rfl hgn hn2 | exact CU_n hv41_0 (fun g => absurd g (bf (tb_0 (by assumption))))) (by first | assumption | omega) (by omega))
                      · refine J_iload_n (pc := 60) dX8_comesNow_60 rfl rfl ?_
                        refine J_iconst (pc := 61) (v := nI 1) dX8_comesNow_61 (by decide) ?_
                        refine J_aload_n (pc := 62) dX8_comesNow_62 rfl rfl rfl ?_
                        refine J_iload (pc := 63) dX8_comesNow_63 rfl ?_
                        refine J_iload (pc := 65) dX8_comesNow_65 rfl ?_
                        refine J_callV0 (pc := 67) (M := mX8_comesNow) (as := [.int (nI c5), .int (nI c6)]) dX8_comesNow_67 fw_X8_at fl_X8_82 fm_X8_at fe_X8_at h19 (by decide) rfl rfl rfl (c_X8_at hs (d := d - 1) (Nat.le_trans (by decide) hdm) (w := w) (n := n) (mv := mv) (rw := rw) (nx := nx) (b := b) (bt := bt) (kn := kn) (en := en) (dn := dn) (rf := rf) (kk := kk) (th := th) ⟨h19, h20, h21, h22, hbb, hbl, hb3⟩ hn1 hn2 gm gr gx c5 c6 (by first | assumption | omega) (by first | assumption | omega) (kc := 0) (ks := 0)) hdp (st := [.int (nI 1), .int (nI x3)]) (Nat.le_of_ble_eq_true rfl) rfl (kr_P fun v21 hv21 => ?_) kx_I
                        subst hv21
                        have hq22 := gm (c5 * 7 + c6)
                        have hgn := (hy2 c5 (by omega)).1 c6 (by omega)
                        have h2g : 2 ^ mv (c5 * 7 + c6) < 2 ^ 31 := Nat.pow_lt_pow_right (by decide) (by omega)
                        refine J_shlOne (pc := 70) dX8_comesNow_70 (by omega) ?_
                        refine J_iorN (pc := 71) dX8_comesNow_71 (by omega) (by omega) ?_
                        refine J_istore_n (pc := 72) dX8_comesNow_72 rfl (by decide) rfl ?_
                        show J X mX8_comesNow d kc ks 73 [some (.ref 19), some (.int (nI s)), some (.int (nI a)), some (.int (nI (x3 ||| (2 ^ (mv (c5 * 7 + c6)))))), some (.int (nI c4)), some (.int (nI c5)), some (.int (nI c6))] [] w _
                        refine J_iincN (pc := 73) (b := 1) dX8_comesNow_73 rfl (by decide) (by decide) rfl ?_
                        show J X mX8_comesNow d kc ks 76 [some (.ref 19), some (.int (nI s)), some (.int (nI a)), some (.int (nI (x3 ||| (2 ^ (mv (c5 * 7 + c6)))))), some (.int (nI c4)), some (.int (nI c5)), some (.int (nI (c6 + 1)))] [] w _
                        refine J_goto (pc := 76) (tgt := 41) dX8_comesNow_76 (by decide) ?_
                        exact J_sub (L' := [some (.ref 19), some (.int (nI s)), some (.int (nI a)), some (.int (nI (x3 ||| (2 ^ (mv (c5 * 7 + c6)))))), some (.int (nI c4)), some (.int (nI c5)), some (.int (nI (c6 + 1)))]) ⟨rfl, ⟨rfl, ⟨rfl, ⟨rfl, ⟨rfl, ⟨rfl, ⟨rfl, trivial⟩⟩⟩⟩⟩⟩⟩ (ihlp41_13 (x3 ||| (2 ^ (mv (c5 * 7 + c6)))) (c6 + 1) (by first | exact CU_y hv41_0 (tb_1 (by assumption)) (by omega) (by omega) (tb_1 (by omega)) rfl hgn hn2 | exact CU_n hv41_0 (fun g => absurd g (bf (tb_0 (by assumption))))) (by first | assumption | omega) (by omega))
                exact J_sub (L' := [some (.ref 19), some (.int (nI s)), some (.int (nI a)), some (.int (nI y3)), some (.int (nI c4)), some (.int (nI c5)), some (.int (nI 0))]) ⟨rfl, ⟨rfl, ⟨rfl, ⟨rfl, ⟨rfl, ⟨rfl, ⟨rfl, trivial⟩⟩⟩⟩⟩⟩⟩ (lp41_13 _ y3 0 (by exact CU_0 hv19_0) (by first | assumption | omega) (Nat.lt_succ_self _))
              · refine J_goto (pc := 35) (tgt := 79) dX8_comesNow_35 (by decide) ?_
                refine J_iincN (pc := 79) (b := 1) dX8_comesNow_79 rfl (by decide) (by decide) rfl ?_
                show J X mX8_comesNow d kc ks 82 [some (.ref 19), some (.int (nI s)), some (.int (nI a)), some (.int (nI y3)), some (.int (nI c4)), some (.int (nI (c5 + 1))), none] [] w _
                refine J_goto (pc := 82) (tgt := 19) dX8_comesNow_82 (by decide) ?_
                exact J_sub (L' := [some (.ref 19), some (.int (nI s)), some (.int (nI a)), some (.int (nI y3)), some (.int (nI c4)), some (.int (nI (c5 + 1))), none]) ⟨rfl, ⟨rfl, ⟨rfl, ⟨rfl, ⟨rfl, ⟨rfl, trivial⟩⟩⟩⟩⟩⟩ (ihlp19_5 y3 (c5 + 1) (by first | exact CV_s hv41_0 (by omega) | exact CV_n hv19_0 (tb_0 (by omega))) (by first | assumption | omega) (by omega))
        exact J_sub (L' := [some (.ref 19), some (.int (nI s)), some (.int (nI a)), some (.int (nI z3)), some (.int (nI c4)), some (.int (nI 0)), none]) ⟨rfl, ⟨rfl, ⟨rfl, ⟨rfl, ⟨rfl, ⟨rfl, trivial⟩⟩⟩⟩⟩⟩ (lp19_5 _ z3 0 (by exact CV_0 hv7_0) (by first | assumption | omega) (Nat.lt_succ_self _))
  exact J_sub (L' := [some (.ref 19), some (.int (nI s)), some (.int (nI a)), some (.int (nI (2 ^ a))), some (.int (nI 0)), none, none]) ⟨rfl, ⟨rfl, ⟨rfl, ⟨rfl, ⟨rfl, trivial⟩⟩⟩⟩⟩ (lp7_1 _ (2 ^ a) 0 (by exact CW_0 hn2 hy1) (by first | assumption | omega) (Nat.lt_succ_self _))
set_option maxRecDepth 100000 in
set_option maxHeartbeats 40000000 in
theorem c_X8_piecesNow_atx {X : jX} (hs : X.1.stackTraces = false) {d : Nat} (hd : 2 ≤ d) {n : Nat} {mv rw nx : Nat → Nat} {b : Nat} {bt : List Int32} {kn en dn rf kk th : Int32} {w : List jC} (hR : RM n mv rw nx b bt kn en dn rf kk th w) (hn1 : 2 ≤ n) (hn2 : n ≤ 7) (gm : ∀ i, mv i < 7) (gr : ∀ i, rw i < 7) (gx : ∀ i, nx i < 7) (s : Nat) (hy0 : s < 64) (hy1 : PM n mv) {kc ks : Nat} : jMet X mX8_piecesNow d kc ks [.ref 19, .int (nI s)] w (pI (fun v => v = nI (ct (fun p => ∀ q, q < p → ¬ Omr n mv s p q) n)) (fun w' => w' = w)) := by
  refine jMet_of hs (by decide +kernel) (Nat.le_of_ble_eq_true rfl) (L := [some (.ref 19), some (.int (nI s)), none, none]) rfl ?_
  have hdm : 1 ≤ d - 1 := by omega
  have hdp : d - 1 + 1 ≤ d := by omega
  have hfc := fc_7 hn2
  have hfp := fc_pos n
  obtain ⟨h19, h20, h21, h22, hbb, hbl, hb3⟩ := hR
  have hF : FR b b w w := FR.rf
  refine J_iconst (pc := 0) (v := nI 0) dX8_piecesNow_0 (by decide) ?_
  refine J_istore_n (pc := 1) dX8_piecesNow_1 rfl (by decide) rfl ?_
  show J X mX8_piecesNow d kc ks 2 [some (.ref 19), some (.int (nI s)), some (.int (nI 0)), none] [] w _
  refine J_iconst (pc := 2) (v := nI 0) dX8_piecesNow_2 (by decide) ?_
  refine J_istore_n (pc := 3) dX8_piecesNow_3 rfl (by decide) rfl ?_
  show J X mX8_piecesNow d kc ks 4 [some (.ref 19), some (.int (nI s)), some (.int (nI 0)), some (.int (nI 0))] [] w _
  have lp4_1 : ∀ (fuel : Nat) (y2 : Nat) (c3 : Nat), (y2 = ct (fun p => ∀ q, q < p → ¬ Omr n mv s p q) c3) → (c3 ≤ n) → (n - c3 < fuel) → J X mX8_piecesNow d kc ks 4 [some (.ref 19), some (.int (nI s)), some (.int (nI y2)), some (.int (nI c3))] [] w (pI (fun v => v = nI (ct (fun p => ∀ q, q < p → ¬ Omr n mv s p q) n)) (fun w' => w' = w)) := by
    intro fuellp4_1
    induction fuellp4_1 with
    | zero => intros; omega
    | succ fuellp4_1 ihlp4_1 =>
      intro y2 c3 hv4_0 hv4_1 hf2
      refine J_iload_n (pc := 4) dX8_piecesNow_4 rfl rfl ?_
      refine J_aload_n (pc := 5) dX8_piecesNow_5 rfl rfl rfl ?_
      refine J_get (pc := 6) (k := 0) dX8_piecesNow_6 kC9 (by decide) ff_X8_7 h19 rfl ?_
      refine J_icmp_geN (pc := 9) (tgt := 41) dX8_piecesNow_9 (by decide) (by omega) (by omega) (fun ht3 => ?_) (fun hf4 => ?_)
      · refine J_iload_n (pc := 41) dX8_piecesNow_41 rfl rfl ?_
        exact J_iret (pc := 42) dX8_piecesNow_42 rfl ⟨(congrArg nI (by rw [hv4_0, show c3 = n by omega])), rfl⟩
      · refine J_iload_n (pc := 12) dX8_piecesNow_12 rfl rfl ?_
        refine J_aload_n (pc := 13) dX8_piecesNow_13 rfl rfl rfl ?_
        refine J_iload_n (pc := 14) dX8_piecesNow_14 rfl rfl ?_
        refine J_iload_n (pc := 15) dX8_piecesNow_15 rfl rfl ?_
        refine J_callV0 (pc := 16) (M := mX8_piecesNow) (as := [.int (nI s), .int (nI c3)]) dX8_piecesNow_16 fw_X8_comesNow fl_X8_188 fm_X8_comesNow fe_X8_comesNow h19 (by decide) rfl rfl rfl (c_X8_comesNow_atx hs (d := d - 1) (Nat.le_trans (by decide) hdm) (w := w) (n := n) (mv := mv) (rw := rw) (nx := nx) (b := b) (bt := bt) (kn := kn) (en := en) (dn := dn) (rf := rf) (kk := kk) (th := th) ⟨h19, h20, h21, h22, hbb, hbl, hb3⟩ hn1 hn2 gm gr gx s c3 (by first | assumption | omega) (by first | assumption | omega) (by first | assumption | omega) (kc := 0) (ks := 0)) hdp (st := [.int (nI y2)]) (Nat.le_of_ble_eq_true rfl) rfl (kr_P fun v5 hv5 => ?_) kx_I
        subst hv5
        have h31 := sBv_31 (P := Omr n mv s c3) hn2
        have h1p : 1 ≤ 2 ^ c3 := Nat.one_le_two_pow
        refine J_iconst (pc := 19) (v := nI 1) dX8_piecesNow_19 (by decide) ?_
        refine J_iload_n (pc := 20) dX8_piecesNow_20 rfl rfl ?_
        refine J_shlOne (pc := 21) dX8_piecesNow_21 (by omega) ?_
        refine J_iconst (pc := 22) (v := nI 1) dX8_piecesNow_22 (by decide) ?_
        refine J_isubN (pc := 23) dX8_piecesNow_23 (by omega) ?_
        refine J_iandP (pc := 24) dX8_piecesNow_24 (by omega) (by omega) ?_
        have hml := Nat.mod_le (sBv (Omr n mv s c3) n) (2 ^ c3)
        refine J_if_neN (pc := 25) (tgt := 32) dX8_piecesNow_25 (by decide) (by omega) (fun ht6 => ?_) (fun hf7 => ?_)
        · refine J_iconst (pc := 32) (v := nI 0) dX8_piecesNow_32 (by decide) ?_
          refine J_iaddN (pc := 33) dX8_piecesNow_33 ?_
          refine J_istore_n (pc := 34) dX8_piecesNow_34 rfl (by decide) rfl ?_
          show J X mX8_piecesNow d kc ks 35 [some (.ref 19), some (.int (nI s)), some (.int (nI (y2 + 0))), some (.int (nI c3))] [] w _
          refine J_iincN (pc := 35) (b := 1) dX8_piecesNow_35 rfl (by decide) (by decide) rfl ?_
          show J X mX8_piecesNow d kc ks 38 [some (.ref 19), some (.int (nI s)), some (.int (nI (y2 + 0))), some (.int (nI (c3 + 1)))] [] w _
          refine J_goto (pc := 38) (tgt := 4) dX8_piecesNow_38 (by decide) ?_
          exact J_sub (L' := [some (.ref 19), some (.int (nI s)), some (.int (nI (y2 + 0))), some (.int (nI (c3 + 1)))]) ⟨rfl, ⟨rfl, ⟨rfl, ⟨rfl, trivial⟩⟩⟩⟩ (ihlp4_1 (y2 + 0) (c3 + 1) (by rw [hv4_0]; first | exact ct_y ((sBv_low (n := n) (by omega)).mp (by assumption)) | exact ct_n (fun e => absurd ((sBv_low (n := n) (by omega)).mpr e) (by assumption))) (by first | assumption | omega) (by omega))
        · refine J_iconst (pc := 28) (v := nI 1) dX8_piecesNow_28 (by decide) ?_
          refine J_goto (pc := 29) (tgt := 33) dX8_piecesNow_29 (by decide) ?_
          refine J_iaddN (pc := 33) dX8_piecesNow_33 ?_
          refine J_istore_n (pc := 34) dX8_piecesNow_34 rfl (by decide) rfl ?_
          show J X mX8_piecesNow d kc ks 35 [some (.ref 19), some (.int (nI s)), some (.int (nI (y2 + 1))), some (.int (nI c3))] [] w _
          refine J_iincN (pc := 35) (b := 1) dX8_piecesNow_35 rfl (by decide) (by decide) rfl ?_
          show J X mX8_piecesNow d kc ks 38 [some (.ref 19), some (.int (nI s)), some (.int (nI (y2 + 1))), some (.int (nI (c3 + 1)))] [] w _
          refine J_goto (pc := 38) (tgt := 4) dX8_piecesNow_38 (by decide) ?_
          exact J_sub (L' := [some (.ref 19), some (.int (nI s)), some (.int (nI (y2 + 1))), some (.int (nI (c3 + 1)))]) ⟨rfl, ⟨rfl, ⟨rfl, ⟨rfl, trivial⟩⟩⟩⟩ (ihlp4_1 (y2 + 1) (c3 + 1) (by rw [hv4_0]; first | exact ct_y ((sBv_low (n := n) (by omega)).mp (by assumption)) | exact ct_n (fun e => absurd ((sBv_low (n := n) (by omega)).mpr e) (by assumption))) (by first | assumption | omega) (by omega))
  exact J_sub (L' := [some (.ref 19), some (.int (nI s)), some (.int (nI 0)), some (.int (nI 0))]) ⟨rfl, ⟨rfl, ⟨rfl, ⟨rfl, trivial⟩⟩⟩⟩ (lp4_1 _ 0 0 (by rfl) (by first | assumption | omega) (Nat.lt_succ_self _))
end
