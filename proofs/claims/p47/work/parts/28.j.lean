/-! the reference is sound, always -/
theorem BX_en {n s : Nat} {mv : Nat → Nat} {bt : List Int32} {en : Int32} (h : BX n mv s bt en) : en = nI (enF n (mW n mv) s 6) := h.2
theorem pw31 {k N : Nat} (h : 2 ^ k ≤ N) (hN : N ≤ 5040) : k < 31 ∧ 2 ^ k < 2 ^ 31 := by
  refine ⟨Nat.lt_of_not_le (fun q => ?_), by omega⟩
  have := Nat.pow_le_pow_right (show 1 ≤ 2 by decide) q
  omega
theorem oC_mW {n : Nat} {mv : Nat → Nat} (hn : n ≤ 7) (hP : PM n mv) {c : Nat} (hc : c < 6) : oC (mW n mv c) = olc (lF (fun p => mv (c * 7 + p)) n) n := by
  have hM := mW_Mv hn hP hc
  refine order_is hn hM (fun p hp => ?_)
  rw [lF_ln hn hM (fun q hq => (mW_d hn hP hc hq).symm) hp]
  exact (lF_ln (Nat.le_refl 7) (show Mv 7 (mW n mv c) from ⟨hM.1, hM.P7 hn, fun p h1 h2 => absurd h2 (by omega)⟩) (fun q _ => rfl) (show p < 7 by omega)).symm
theorem bit63 {c : Nat} (hc : c < 6) : (63 : Nat).testBit c = true := by
  rcases (show c = 0 ∨ c = 1 ∨ c = 2 ∨ c = 3 ∨ c = 4 ∨ c = 5 by omega) with e | e | e | e | e | e <;> subst e <;> decide
theorem gen63 {n : Nat} {mv : Nat → Nat} (hn : n ≤ 7) (hP : PM n mv) {c : Nat} (hc : c < 6) : Gg n (gS (mW n mv) 63 6) (mW n mv c) :=
  Gg_of hn (gS_M (Nat.le_refl 6) (fun c hc => mW_Mv hn hP hc)) ⟨c, hc, bit63 hc, rfl⟩
theorem sBv_lt {P : Nat → Prop} (m : Nat) : sBv P m < 2 ^ m := Nat.lt_of_not_le (fun h => by
  obtain ⟨i, hi, h2⟩ := Nat.exists_ge_and_testBit_of_ge_two_pow h
  have := ((sBv_bit m).mp h2).1
  omega)
theorem cnt_sBv {n : Nat} {P : Nat → Prop} (hn : n ≤ 7) : pc32 (nI (sBv P n)) = ct P n := by
  have hlt : sBv P n < 2 ^ 32 := Nat.lt_of_lt_of_le (sBv_lt n) (Nat.pow_le_pow_right (by decide) (by omega))
  rw [pc32_nI hlt]
  have e : ∀ m, ct (fun v => v < n ∧ P v) m = cnt (fun i => (sBv P n).testBit i) m := fun m => ct_cnt m (fun v _ => (sBv_bit n).symm)
  rw [← e 32]
  have e2 : ∀ k, ct (fun v => v < n ∧ P v) (n + k) = ct P n := by
    intro k
    induction k with
    | zero => exact ct_iff (fun v hv => ⟨And.right, fun a => ⟨hv, a⟩⟩)
    | succ k ih =>
      show ct (fun v => v < n ∧ P v) (n + k) + on (n + k < n ∧ P (n + k)) = _
      rw [ih, on_f (p := n + k < n ∧ P (n + k)) (fun a => absurd a.1 (by omega)), Nat.add_zero]
  have h3 := e2 (32 - n)
  rw [show n + (32 - n) = 32 by omega] at h3
  exact h3
set_option maxRecDepth 100000 in
set_option maxHeartbeats 4000000 in
theorem c_X8_reachNow_atkx {X : jX} (hs : X.1.stackTraces = false) {d : Nat} (hd : 4 ≤ d) {n : Nat} {mv rw nx : Nat → Nat} {b : Nat} {bt : List Int32} {kn en dn rf kk th : Int32} {w : List jC} (hR : RM n mv rw nx b bt kn en dn rf kk th w) (hn1 : 2 ≤ n) (hn2 : n ≤ 7) (gm : ∀ i, mv i < 7) (gr : ∀ i, rw i < 7) (gx : ∀ i, nx i < 7) (s : Nat) (a : Nat) (c : Nat) (hy0 : s < 64) (hy1 : PM n mv) (hy2 : kn = nI s ∧ BX n mv s bt en) (hy3 : a < 6) (hy4 : c < n) {kc ks : Nat} : jMet X mX8_reachNow d kc ks [.ref 19, .int (nI s), .int (nI a), .int (nI c)] w (pI (fun v => v = nI (sBv (RP n (Gg n (gS (mW n mv) s 6)) (fun j => mv (a * 7 + j)) c) n)) (fun w' => ∃ (rw' : Nat → Nat), RM n mv rw' nx b bt kn en dn rf kk th w' ∧ FR b b w w' ∧ (∀ i, rw' i < 7))) := by
  refine jMet_of hs (by decide +kernel) (Nat.le_of_ble_eq_true rfl) (L := [some (.ref 19), some (.int (nI s)), some (.int (nI a)), some (.int (nI c)), none, none, none, none]) rfl ?_
  have hdm : 3 ≤ d - 1 := by omega
  have hdp : d - 1 + 1 ≤ d := by omega
  have hfc := fc_7 hn2
  have hfp := fc_pos n
  obtain ⟨h19, h20, h21, h22, hbb, hbl, hb3⟩ := hR
  have hF : FR b b w w := FR.rf
  refine J_aload_n (pc := 0) dX8_reachNow_0 rfl rfl rfl ?_
  refine J_iload_n (pc := 1) dX8_reachNow_1 rfl rfl ?_
  refine J_callV0 (pc := 2) (M := mX8_reachNow) (as := [.int (nI s)]) dX8_reachNow_2 fw_X8_group fl_X8_99 fm_X8_group fe_X8_group h19 (by decide) rfl rfl rfl (c_X8_group_atk hs (d := d - 1) (Nat.le_trans (by decide) hdm) (w := w) (n := n) (mv := mv) (rw := rw) (nx := nx) (b := b) (bt := bt) (kn := kn) (en := en) (dn := dn) (rf := rf) (kk := kk) (th := th) ⟨h19, h20, h21, h22, hbb, hbl, hb3⟩ hn1 hn2 gm gr gx s (by assumption) (by exact hy2.1) (kc := 0) (ks := 0)) hdp (st := []) (Nat.le_of_ble_eq_true rfl) rfl (kr_V fun w1 hw1 => ?_) kx_V
  obtain rfl := hw1.symm
  have hBXE := hy2.2; have hBX := hBXE.1
  refine J_iconst (pc := 5) (v := nI 0) dX8_reachNow_5 (by decide) ?_
  refine J_istore (pc := 6) dX8_reachNow_6 (by decide) rfl ?_
  show J X mX8_reachNow d kc ks 8 [some (.ref 19), some (.int (nI s)), some (.int (nI a)), some (.int (nI c)), some (.int (nI 0)), none, none, none] [] w _
  refine J_aload_n (pc := 8) dX8_reachNow_8 rfl rfl rfl ?_
  refine J_iconst (pc := 9) (v := nI 0) dX8_reachNow_9 (by decide) ?_
  refine J_callV0 (pc := 10) (M := mX8_reachNow) (as := [.int (nI 0)]) dX8_reachNow_10 fw_X8_from fl_X8_137 fm_X8_from fe_X8_from h19 (by decide) rfl rfl rfl (c_X8_from hs (d := d - 1) (Nat.le_trans (by decide) hdm) (w := w) (n := n) (mv := mv) (rw := rw) (nx := nx) (b := b) (bt := bt) (kn := kn) (en := en) (dn := dn) (rf := rf) (kk := kk) (th := th) ⟨h19, h20, h21, h22, hbb, hbl, hb3⟩ hn1 hn2 gm gr gx 0 (by first | assumption | omega) (kc := 0) (ks := 0)) hdp (st := []) (Nat.le_of_ble_eq_true rfl) rfl (kr_P fun v2 hv2 => ?_) kx_I
  rcases hv2 with ⟨rfl, hk2_0⟩ | ⟨q2, rfl, hk2_0, hk2_1, hk2_2, hk2_3⟩
  · refine J_istore (pc := 13) dX8_reachNow_13 (by decide) rfl ?_
    show J X mX8_reachNow d kc ks 15 [some (.ref 19), some (.int (nI s)), some (.int (nI a)), some (.int (nI c)), some (.int (nI 0)), some (.int (-1)), none, none] [] w _
    have lp15_3 : ∀ (fuel : Nat) (w4 : List jC) (rw_15 : Nat → Nat) (z4 : Nat) (c5 : Nat), (RM n mv rw_15 nx b bt kn en dn rf kk th w4) → (FR b b w w4) → (∀ i, rw_15 i < 7) → (c5 ≤ fc n) → (0 < c5 → bitL bt (c5 - 1) = true) → (RBt n bt (fun j => mv (a * 7 + j)) c z4 (KK (fc n) c5)) → (mu (fc n) c5 < fuel) → J X mX8_reachNow d kc ks 15 [some (.ref 19), some (.int (nI s)), some (.int (nI a)), some (.int (nI c)), some (.int (nI z4)), some (.int (nI c5 + Int32.ofInt (-1))), none, none] [] w4 (pI (fun v => v = nI (sBv (RP n (Gg n (gS (mW n mv) s 6)) (fun j => mv (a * 7 + j)) c) n)) (fun w' => ∃ (rw' : Nat → Nat), RM n mv rw' nx b bt kn en dn rf kk th w' ∧ FR b b w w' ∧ (∀ i, rw' i < 7))) := by
      intro fuellp15_3
      induction fuellp15_3 with
      | zero => intros; omega
      | succ fuellp15_3 ihlp15_3 =>
        intro w4 rw_15 z4 c5 hR5 hF6 gr7 hv15_0 hv15_1 hv15_2 hf8
        obtain ⟨h19_9, h20_9, h21_9, h22_9, hb_9, hbl_9, hb3_9⟩ := hR5
        refine J_iload (pc := 15) dX8_reachNow_15 rfl ?_
        refine J_if_ltM (pc := 17) (tgt := 116) dX8_reachNow_17 (by decide) (by omega) (fun ht10 => ?_) (fun hf11 => ?_)
        · refine J_iload (pc := 116) dX8_reachNow_116 rfl ?_
          exact J_iret (pc := 118) dX8_reachNow_118 rfl ⟨(congrArg nI (by exact RBt_end (by omega) hn2 hBX (fun j hj => (hy1 a hy3).1 j hj) hy4 (by have h := hv15_2; rw [show c5 = 0 by omega, KK_0] at h; exact h))), ⟨rw_15, ⟨h19_9, h20_9, h21_9, h22_9, hb_9, hbl_9, hb3_9⟩, hF6, gr7⟩⟩
        · rw [nI_m1 hf11]
          have hb15 := hv15_1 (by omega)
          have hprev : RBt n bt (fun j => mv (a * 7 + j)) c z4 (c5 - 1) := by
            have h := hv15_2
            rw [KK_p (by omega)] at h
            exact h
          have hcn := (hy1 a hy3).1 c hy4
          refine J_aload_n (pc := 20) dX8_reachNow_20 rfl rfl rfl ?_
          refine J_iload (pc := 21) dX8_reachNow_21 rfl ?_
          refine J_aload_n (pc := 23) dX8_reachNow_23 rfl rfl rfl ?_
          refine J_get (pc := 24) (k := 2) dX8_reachNow_24 kC9 (by decide) ff_X8_17 h19_9 rfl ?_
          refine J_callV0 (pc := 27) (M := mX8_reachNow) (as := [.int (nI (c5 - 1)), .ref 21]) dX8_reachNow_27 fw_X8_rowOf fl_X8_78 fm_X8_rowOf fe_X8_rowOf h19_9 (by decide) rfl rfl rfl (c_X8_rowOf hs (d := d - 1) (Nat.le_trans (by decide) hdm) (w := w4) (n := n) (mv := mv) (rw := rw_15) (nx := nx) (b := b) (bt := bt) (kn := kn) (en := en) (dn := dn) (rf := rf) (kk := kk) (th := th) ⟨h19_9, h20_9, h21_9, h22_9, hb_9, hbl_9, hb3_9⟩ hn1 hn2 gm gr7 gx (c5 - 1) (by first | assumption | omega) (kc := 0) (ks := 0)) hdp (st := []) (Nat.le_of_ble_eq_true rfl) rfl (kr_V fun w12 hw12 => ?_) kx_V
          obtain ⟨rw12, hR12, hFc12, hgrw12, hp12_0⟩ := hw12
          obtain ⟨h19_12, h20_12, h21_12, h22_12, hbb_12, hbl_12, hb3_12⟩ := hR12
          have hF12 := hF6.tr hFc12
          have hrow := hp12_0
          refine J_iconst (pc := 30) (v := nI 1) dX8_reachNow_30 (by decide) ?_
          refine J_istore (pc := 31) dX8_reachNow_31 (by decide) rfl ?_
          show J X mX8_reachNow d kc ks 33 [some (.ref 19), some (.int (nI s)), some (.int (nI a)), some (.int (nI c)), some (.int (nI z4)), some (.int (nI (c5 - 1))), some (.int (nI 1)), none] [] w12 _
          refine J_iconst (pc := 33) (v := nI 0) dX8_reachNow_33 (by decide) ?_
          refine J_istore (pc := 34) dX8_reachNow_34 (by decide) rfl ?_
          show J X mX8_reachNow d kc ks 36 [some (.ref 19), some (.int (nI s)), some (.int (nI a)), some (.int (nI c)), some (.int (nI z4)), some (.int (nI (c5 - 1))), some (.int (nI 1)), some (.int (nI 0))] [] w12 _
          have lp36_13 : ∀ (fuel : Nat) (y6 : Nat) (c7 : Nat), (y6 < 2) → (c7 ≤ c) → (STt rw12 (fun j => mv (a * 7 + j)) c c7 y6) → (c - c7 < fuel) → J X mX8_reachNow d kc ks 36 [some (.ref 19), some (.int (nI s)), some (.int (nI a)), some (.int (nI c)), some (.int (nI z4)), some (.int (nI (c5 - 1))), some (.int (nI y6)), some (.int (nI c7))] [] w12 (pI (fun v => v = nI (sBv (RP n (Gg n (gS (mW n mv) s 6)) (fun j => mv (a * 7 + j)) c) n)) (fun w' => ∃ (rw' : Nat → Nat), RM n mv rw' nx b bt kn en dn rf kk th w' ∧ FR b b w w' ∧ (∀ i, rw' i < 7))) := by
            intro fuellp36_13
            induction fuellp36_13 with
            | zero => intros; omega
            | succ fuellp36_13 ihlp36_13 =>
              intro y6 c7 hv36_0 hv36_1 hv36_2 hf14
              refine J_iload (pc := 36) dX8_reachNow_36 rfl ?_
              refine J_iload_n (pc := 38) dX8_reachNow_38 rfl rfl ?_
              refine J_icmp_geN (pc := 39) (tgt := 80) dX8_reachNow_39 (by decide) (by omega) (by omega) (fun ht15 => ?_) (fun hf16 => ?_)
              · have hgg : ∀ j, j < c → rw12 ((fun j => mv (a * 7 + j)) j) = rwF n (c5 - 1) ((fun j => mv (a * 7 + j)) j) := fun j hj => hrow _ ((hy1 a hy3).1 j (by omega))
                refine J_iload (pc := 80) dX8_reachNow_80 rfl ?_
                refine J_if_eqN (pc := 82) (tgt := 103) dX8_reachNow_82 (by decide) (by omega) (fun ht17 => ?_) (fun hf18 => ?_)
                · have hst : RBt n bt (fun j => mv (a * 7 + j)) c z4 (c5 - 1 + 1) := by first | exact RBt_s hprev hb15 hyes (hrow _ hcn) (by omega) | exact RBt_n hprev (STt_f (rd := (fun j => mv (a * 7 + j))) hv36_2 (by assumption) hgg)
                  refine J_aload_n (pc := 103) dX8_reachNow_103 rfl rfl rfl ?_
                  refine J_iload (pc := 104) dX8_reachNow_104 rfl ?_
                  refine J_iconst (pc := 106) (v := nI 1) dX8_reachNow_106 (by decide) ?_
                  refine J_iaddN (pc := 107) dX8_reachNow_107 ?_
                  refine J_callV0 (pc := 108) (M := mX8_reachNow) (as := [.int (nI ((c5 - 1) + 1))]) dX8_reachNow_108 fw_X8_from fl_X8_137 fm_X8_from fe_X8_from h19_12 (by decide) rfl rfl rfl (c_X8_from hs (d := d - 1) (Nat.le_trans (by decide) hdm) (w := w12) (n := n) (mv := mv) (rw := rw12) (nx := nx) (b := b) (bt := bt) (kn := kn) (en := en) (dn := dn) (rf := rf) (kk := kk) (th := th) ⟨h19_12, h20_12, h21_12, h22_12, hbb_12, hbl_12, hb3_12⟩ hn1 hn2 gm hgrw12 gx ((c5 - 1) + 1) (by first | assumption | omega) (kc := 0) (ks := 0)) hdp (st := []) (Nat.le_of_ble_eq_true rfl) rfl (kr_P fun v19 hv19 => ?_) kx_I
                  rcases hv19 with ⟨rfl, hk19_0⟩ | ⟨q19, rfl, hk19_0, hk19_1, hk19_2, hk19_3⟩
                  · refine J_istore (pc := 111) dX8_reachNow_111 (by decide) rfl ?_
                    show J X mX8_reachNow d kc ks 113 [some (.ref 19), some (.int (nI s)), some (.int (nI a)), some (.int (nI c)), some (.int (nI z4)), some (.int (-1)), some (.int (nI y6)), some (.int (nI c7))] [] w12 _
                    refine J_goto (pc := 113) (tgt := 15) dX8_reachNow_113 (by decide) ?_
                    exact J_sub (L' := [some (.ref 19), some (.int (nI s)), some (.int (nI a)), some (.int (nI c)), some (.int (nI z4)), some (.int (nI 0 + Int32.ofInt (-1))), none, none]) ⟨rfl, ⟨rfl, ⟨rfl, ⟨rfl, ⟨rfl, ⟨(congrArg (fun z => some (Value.int z)) (by decide : (-1 : Int32) = nI 0 + Int32.ofInt (-1))), trivial⟩⟩⟩⟩⟩⟩ (ihlp15_3 w12 rw12 z4 0 ⟨h19_12, h20_12, h21_12, h22_12, hbb_12, hbl_12, hb3_12⟩ hF12 hgrw12 (by first | assumption | omega) (by intro h; first | (rw [Nat.add_sub_cancel]; assumption) | omega) (by first | exact KI_0 RBt_f hst (by omega) (by assumption) | exact KI_1 RBt_f hst (by omega) (by assumption)) (by exact mu_dec (by assumption) (by omega) (by omega) (by omega)))
                  · refine J_istore (pc := 111) dX8_reachNow_111 (by decide) rfl ?_
                    show J X mX8_reachNow d kc ks 113 [some (.ref 19), some (.int (nI s)), some (.int (nI a)), some (.int (nI c)), some (.int (nI z4)), some (.int (nI q19)), some (.int (nI y6)), some (.int (nI c7))] [] w12 _
                    refine J_goto (pc := 113) (tgt := 15) dX8_reachNow_113 (by decide) ?_
                    exact J_sub (L' := [some (.ref 19), some (.int (nI s)), some (.int (nI a)), some (.int (nI c)), some (.int (nI z4)), some (.int (nI (q19 + 1) + Int32.ofInt (-1))), none, none]) ⟨rfl, ⟨rfl, ⟨rfl, ⟨rfl, ⟨rfl, ⟨(congrArg (fun z => some (Value.int z)) (nI_n1 q19)), trivial⟩⟩⟩⟩⟩⟩ (ihlp15_3 w12 rw12 z4 (q19 + 1) ⟨h19_12, h20_12, h21_12, h22_12, hbb_12, hbl_12, hb3_12⟩ hF12 hgrw12 (by first | assumption | omega) (by intro h; first | (rw [Nat.add_sub_cancel]; assumption) | omega) (by first | exact KI_0 RBt_f hst (by omega) (by assumption) | exact KI_1 RBt_f hst (by omega) (by assumption)) (by exact mu_dec (by assumption) (by omega) (by omega) (by omega)))
                · have hyes := STt_y (rd := (fun j => mv (a * 7 + j))) (g := rwF n (c5 - 1)) hv36_2 (by omega) (by assumption) hgg
                  have hrv : rw12 (mv (a * 7 + c)) < n := by rw [hrow _ hcn]; exact (rwF_Pn (by omega)).1 _ hcn
                  have hz4 := hprev.1
                  have hp2 : 2 ^ rw12 (mv (a * 7 + c)) < 2 ^ 31 := Nat.pow_lt_pow_right (by decide) (by omega)
                  refine J_iload (pc := 85) dX8_reachNow_85 rfl ?_
                  refine J_iconst (pc := 87) (v := nI 1) dX8_reachNow_87 (by decide) ?_
                  refine J_aload_n (pc := 88) dX8_reachNow_88 rfl rfl rfl ?_
                  refine J_get (pc := 89) (k := 2) dX8_reachNow_89 kC9 (by decide) ff_X8_17 h19_12 rfl ?_
                  refine J_aload_n (pc := 92) dX8_reachNow_92 rfl rfl rfl ?_
                  refine J_iload_n (pc := 93) dX8_reachNow_93 rfl rfl ?_
                  refine J_iload_n (pc := 94) dX8_reachNow_94 rfl rfl ?_
                  refine J_callV0 (pc := 95) (M := mX8_reachNow) (as := [.int (nI a), .int (nI c)]) dX8_reachNow_95 fw_X8_at fl_X8_82 fm_X8_at fe_X8_at h19_12 (by decide) rfl rfl rfl (c_X8_at hs (d := d - 1) (Nat.le_trans (by decide) hdm) (w := w12) (n := n) (mv := mv) (rw := rw12) (nx := nx) (b := b) (bt := bt) (kn := kn) (en := en) (dn := dn) (rf := rf) (kk := kk) (th := th) ⟨h19_12, h20_12, h21_12, h22_12, hbb_12, hbl_12, hb3_12⟩ hn1 hn2 gm hgrw12 gx a c (by first | assumption | omega) (by first | assumption | omega) (kc := 0) (ks := 0)) hdp (st := [.ref 21, .int (nI 1), .int (nI z4)]) (Nat.le_of_ble_eq_true rfl) rfl (kr_P fun v20 hv20 => ?_) kx_I
                  subst hv20
                  have hq21 := gm (a * 7 + c)
                  refine J_ialdF (pc := 98) dX8_reachNow_98 h21_12 (by omega) (by decide) ?_
                  have hq22 := hgrw12 (mv (a * 7 + c))
                  refine J_shlOne (pc := 99) dX8_reachNow_99 (by omega) ?_
                  refine J_iorN (pc := 100) dX8_reachNow_100 (by omega) (by omega) ?_
                  refine J_istore (pc := 101) dX8_reachNow_101 (by decide) rfl ?_
                  show J X mX8_reachNow d kc ks 103 [some (.ref 19), some (.int (nI s)), some (.int (nI a)), some (.int (nI c)), some (.int (nI (z4 ||| (2 ^ (rw12 (mv (a * 7 + c))))))), some (.int (nI (c5 - 1))), some (.int (nI y6)), some (.int (nI c7))] [] w12 _
                  have hst : RBt n bt (fun j => mv (a * 7 + j)) c (z4 ||| (2 ^ (rw12 (mv (a * 7 + c))))) (c5 - 1 + 1) := by first | exact RBt_s hprev hb15 hyes (hrow _ hcn) (by omega) | exact RBt_n hprev (STt_f (rd := (fun j => mv (a * 7 + j))) hv36_2 (by assumption) hgg)
                  refine J_aload_n (pc := 103) dX8_reachNow_103 rfl rfl rfl ?_
                  refine J_iload (pc := 104) dX8_reachNow_104 rfl ?_
                  refine J_iconst (pc := 106) (v := nI 1) dX8_reachNow_106 (by decide) ?_
                  refine J_iaddN (pc := 107) dX8_reachNow_107 ?_
                  refine J_callV0 (pc := 108) (M := mX8_reachNow) (as := [.int (nI ((c5 - 1) + 1))]) dX8_reachNow_108 fw_X8_from fl_X8_137 fm_X8_from fe_X8_from h19_12 (by decide) rfl rfl rfl (c_X8_from hs (d := d - 1) (Nat.le_trans (by decide) hdm) (w := w12) (n := n) (mv := mv) (rw := rw12) (nx := nx) (b := b) (bt := bt) (kn := kn) (en := en) (dn := dn) (rf := rf) (kk := kk) (th := th) ⟨h19_12, h20_12, h21_12, h22_12, hbb_12, hbl_12, hb3_12⟩ hn1 hn2 gm hgrw12 gx ((c5 - 1) + 1) (by first | assumption | omega) (kc := 0) (ks := 0)) hdp (st := []) (Nat.le_of_ble_eq_true rfl) rfl (kr_P fun v23 hv23 => ?_) kx_I
                  rcases hv23 with ⟨rfl, hk23_0⟩ | ⟨q23, rfl, hk23_0, hk23_1, hk23_2, hk23_3⟩
                  · refine J_istore (pc := 111) dX8_reachNow_111 (by decide) rfl ?_
                    show J X mX8_reachNow d kc ks 113 [some (.ref 19), some (.int (nI s)), some (.int (nI a)), some (.int (nI c)), some (.int (nI (z4 ||| (2 ^ (rw12 (mv (a * 7 + c))))))), some (.int (-1)), some (.int (nI y6)), some (.int (nI c7))] [] w12 _
                    refine J_goto (pc := 113) (tgt := 15) dX8_reachNow_113 (by decide) ?_
                    exact J_sub (L' := [some (.ref 19), some (.int (nI s)), some (.int (nI a)), some (.int (nI c)), some (.int (nI (z4 ||| (2 ^ (rw12 (mv (a * 7 + c))))))), some (.int (nI 0 + Int32.ofInt (-1))), none, none]) ⟨rfl, ⟨rfl, ⟨rfl, ⟨rfl, ⟨rfl, ⟨(congrArg (fun z => some (Value.int z)) (by decide : (-1 : Int32) = nI 0 + Int32.ofInt (-1))), trivial⟩⟩⟩⟩⟩⟩ (ihlp15_3 w12 rw12 (z4 ||| (2 ^ (rw12 (mv (a * 7 + c))))) 0 ⟨h19_12, h20_12, h21_12, h22_12, hbb_12, hbl_12, hb3_12⟩ hF12 hgrw12 (by first | assumption | omega) (by intro h; first | (rw [Nat.add_sub_cancel]; assumption) | omega) (by first | exact KI_0 RBt_f hst (by omega) (by assumption) | exact KI_1 RBt_f hst (by omega) (by assumption)) (by exact mu_dec (by assumption) (by omega) (by omega) (by omega)))
                  · refine J_istore (pc := 111) dX8_reachNow_111 (by decide) rfl ?_
                    show J X mX8_reachNow d kc ks 113 [some (.ref 19), some (.int (nI s)), some (.int (nI a)), some (.int (nI c)), some (.int (nI (z4 ||| (2 ^ (rw12 (mv (a * 7 + c))))))), some (.int (nI q23)), some (.int (nI y6)), some (.int (nI c7))] [] w12 _
                    refine J_goto (pc := 113) (tgt := 15) dX8_reachNow_113 (by decide) ?_
                    exact J_sub (L' := [some (.ref 19), some (.int (nI s)), some (.int (nI a)), some (.int (nI c)), some (.int (nI (z4 ||| (2 ^ (rw12 (mv (a * 7 + c))))))), some (.int (nI (q23 + 1) + Int32.ofInt (-1))), none, none]) ⟨rfl, ⟨rfl, ⟨rfl, ⟨rfl, ⟨rfl, ⟨(congrArg (fun z => some (Value.int z)) (nI_n1 q23)), trivial⟩⟩⟩⟩⟩⟩ (ihlp15_3 w12 rw12 (z4 ||| (2 ^ (rw12 (mv (a * 7 + c))))) (q23 + 1) ⟨h19_12, h20_12, h21_12, h22_12, hbb_12, hbl_12, hb3_12⟩ hF12 hgrw12 (by first | assumption | omega) (by intro h; first | (rw [Nat.add_sub_cancel]; assumption) | omega) (by first | exact KI_0 RBt_f hst (by omega) (by assumption) | exact KI_1 RBt_f hst (by omega) (by assumption)) (by exact mu_dec (by assumption) (by omega) (by omega) (by omega)))
              · refine J_iload (pc := 42) dX8_reachNow_42 rfl ?_
                refine J_aload_n (pc := 44) dX8_reachNow_44 rfl rfl rfl ?_
                refine J_get (pc := 45) (k := 2) dX8_reachNow_45 kC9 (by decide) ff_X8_17 h19_12 rfl ?_
                refine J_aload_n (pc := 48) dX8_reachNow_48 rfl rfl rfl ?_
                refine J_iload_n (pc := 49) dX8_reachNow_49 rfl rfl ?_
                refine J_iload (pc := 50) dX8_reachNow_50 rfl ?_
                refine J_callV0 (pc := 52) (M := mX8_reachNow) (as := [.int (nI a), .int (nI c7)]) dX8_reachNow_52 fw_X8_at fl_X8_82 fm_X8_at fe_X8_at h19_12 (by decide) rfl rfl rfl (c_X8_at hs (d := d - 1) (Nat.le_trans (by decide) hdm) (w := w12) (n := n) (mv := mv) (rw := rw12) (nx := nx) (b := b) (bt := bt) (kn := kn) (en := en) (dn := dn) (rf := rf) (kk := kk) (th := th) ⟨h19_12, h20_12, h21_12, h22_12, hbb_12, hbl_12, hb3_12⟩ hn1 hn2 gm hgrw12 gx a c7 (by first | assumption | omega) (by first | assumption | omega) (kc := 0) (ks := 0)) hdp (st := [.ref 21, .int (nI y6)]) (Nat.le_of_ble_eq_true rfl) rfl (kr_P fun v24 hv24 => ?_) kx_I
                subst hv24
                have hq25 := gm (a * 7 + c7)
                refine J_ialdF (pc := 55) dX8_reachNow_55 h21_12 (by omega) (by decide) ?_
                have hq26 := hgrw12 (mv (a * 7 + c7))
                refine J_aload_n (pc := 56) dX8_reachNow_56 rfl rfl rfl ?_
                refine J_iload_n (pc := 57) dX8_reachNow_57 rfl rfl ?_
                refine J_iload (pc := 58) dX8_reachNow_58 rfl ?_
                refine J_callV0 (pc := 60) (M := mX8_reachNow) (as := [.int (nI a), .int (nI c7)]) dX8_reachNow_60 fw_X8_at fl_X8_82 fm_X8_at fe_X8_at h19_12 (by decide) rfl rfl rfl (c_X8_at hs (d := d - 1) (Nat.le_trans (by decide) hdm) (w := w12) (n := n) (mv := mv) (rw := rw12) (nx := nx) (b := b) (bt := bt) (kn := kn) (en := en) (dn := dn) (rf := rf) (kk := kk) (th := th) ⟨h19_12, h20_12, h21_12, h22_12, hbb_12, hbl_12, hb3_12⟩ hn1 hn2 gm hgrw12 gx a c7 (by first | assumption | omega) (by first | assumption | omega) (kc := 0) (ks := 0)) hdp (st := [.int (nI (rw12 (mv (a * 7 + c7)))), .int (nI y6)]) (Nat.le_of_ble_eq_true rfl) rfl (kr_P fun v27 hv27 => ?_) kx_I
                subst hv27
                have hq28 := gm (a * 7 + c7)
                refine J_icmp_neN (pc := 63) (tgt := 70) dX8_reachNow_63 (by decide) (by omega) (by omega) (fun ht29 => ?_) (fun hf30 => ?_)
                · refine J_iconst (pc := 70) (v := nI 0) dX8_reachNow_70 (by decide) ?_
                  refine J_iand1 (pc := 71) dX8_reachNow_71 (by omega) (by omega) ?_
                  refine J_istore (pc := 72) dX8_reachNow_72 (by decide) rfl ?_
                  show J X mX8_reachNow d kc ks 74 [some (.ref 19), some (.int (nI s)), some (.int (nI a)), some (.int (nI c)), some (.int (nI z4)), some (.int (nI (c5 - 1))), some (.int (nI (y6 * 0))), some (.int (nI c7))] [] w12 _
                  refine J_iincN (pc := 74) (b := 1) dX8_reachNow_74 rfl (by decide) (by decide) rfl ?_
                  show J X mX8_reachNow d kc ks 77 [some (.ref 19), some (.int (nI s)), some (.int (nI a)), some (.int (nI c)), some (.int (nI z4)), some (.int (nI (c5 - 1))), some (.int (nI (y6 * 0))), some (.int (nI (c7 + 1)))] [] w12 _
                  refine J_goto (pc := 77) (tgt := 36) dX8_reachNow_77 (by decide) ?_
                  exact J_sub (L' := [some (.ref 19), some (.int (nI s)), some (.int (nI a)), some (.int (nI c)), some (.int (nI z4)), some (.int (nI (c5 - 1))), some (.int (nI (y6 * 0))), some (.int (nI (c7 + 1)))]) ⟨rfl, ⟨rfl, ⟨rfl, ⟨rfl, ⟨rfl, ⟨rfl, ⟨rfl, ⟨rfl, trivial⟩⟩⟩⟩⟩⟩⟩⟩ (ihlp36_13 (y6 * 0) (c7 + 1) (by first | assumption | omega) (by first | assumption | omega) (by first | exact STt_1 (rd := (fun j => mv (a * 7 + j))) hv36_2 (by assumption) | exact STt_n (rd := (fun j => mv (a * 7 + j))) (by omega) (by assumption)) (by omega))
                · refine J_iconst (pc := 66) (v := nI 1) dX8_reachNow_66 (by decide) ?_
                  refine J_goto (pc := 67) (tgt := 71) dX8_reachNow_67 (by decide) ?_
                  have hm31 := Nat.mod_lt y6 (show 0 < 2 ^ 1 by decide)
                  refine J_iandN (pc := 71) 1 dX8_reachNow_71 (by omega) (by decide) ?_
                  refine J_istore (pc := 72) dX8_reachNow_72 (by decide) rfl ?_
                  show J X mX8_reachNow d kc ks 74 [some (.ref 19), some (.int (nI s)), some (.int (nI a)), some (.int (nI c)), some (.int (nI z4)), some (.int (nI (c5 - 1))), some (.int (nI (y6 % 2 ^ 1))), some (.int (nI c7))] [] w12 _
                  refine J_iincN (pc := 74) (b := 1) dX8_reachNow_74 rfl (by decide) (by decide) rfl ?_
                  show J X mX8_reachNow d kc ks 77 [some (.ref 19), some (.int (nI s)), some (.int (nI a)), some (.int (nI c)), some (.int (nI z4)), some (.int (nI (c5 - 1))), some (.int (nI (y6 % 2 ^ 1))), some (.int (nI (c7 + 1)))] [] w12 _
                  refine J_goto (pc := 77) (tgt := 36) dX8_reachNow_77 (by decide) ?_
                  exact J_sub (L' := [some (.ref 19), some (.int (nI s)), some (.int (nI a)), some (.int (nI c)), some (.int (nI z4)), some (.int (nI (c5 - 1))), some (.int (nI (y6 % 2 ^ 1))), some (.int (nI (c7 + 1)))]) ⟨rfl, ⟨rfl, ⟨rfl, ⟨rfl, ⟨rfl, ⟨rfl, ⟨rfl, ⟨rfl, trivial⟩⟩⟩⟩⟩⟩⟩⟩ (ihlp36_13 (y6 % 2 ^ 1) (c7 + 1) (by first | assumption | omega) (by first | assumption | omega) (by first | exact STt_1 (rd := (fun j => mv (a * 7 + j))) hv36_2 (by assumption) | exact STt_n (rd := (fun j => mv (a * 7 + j))) (by omega) (by assumption)) (by omega))
          exact J_sub (L' := [some (.ref 19), some (.int (nI s)), some (.int (nI a)), some (.int (nI c)), some (.int (nI z4)), some (.int (nI (c5 - 1))), some (.int (nI 1)), some (.int (nI 0))]) ⟨rfl, ⟨rfl, ⟨rfl, ⟨rfl, ⟨rfl, ⟨rfl, ⟨rfl, ⟨rfl, trivial⟩⟩⟩⟩⟩⟩⟩⟩ (lp36_13 _ 1 0 (by first | assumption | omega) (by first | assumption | omega) (by exact STt_0) (Nat.lt_succ_self _))
    exact J_sub (L' := [some (.ref 19), some (.int (nI s)), some (.int (nI a)), some (.int (nI c)), some (.int (nI 0)), some (.int (nI 0 + Int32.ofInt (-1))), none, none]) ⟨rfl, ⟨rfl, ⟨rfl, ⟨rfl, ⟨rfl, ⟨(congrArg (fun z => some (Value.int z)) (by decide : (-1 : Int32) = nI 0 + Int32.ofInt (-1))), trivial⟩⟩⟩⟩⟩⟩ (lp15_3 _ w rw 0 0 ⟨h19, h20, h21, h22, hbb, hbl, hb3⟩ hF gr (by first | assumption | omega) (by intro h; first | (rw [Nat.add_sub_cancel]; assumption) | omega) (by first | exact KI_0 RBt_f RBt_0 (Nat.zero_le _) (by assumption) | exact KI_1 RBt_f RBt_0 (Nat.zero_le _) (by assumption)) (Nat.lt_succ_self _))
  · refine J_istore (pc := 13) dX8_reachNow_13 (by decide) rfl ?_
    show J X mX8_reachNow d kc ks 15 [some (.ref 19), some (.int (nI s)), some (.int (nI a)), some (.int (nI c)), some (.int (nI 0)), some (.int (nI q2)), none, none] [] w _
    have lp15_32 : ∀ (fuel : Nat) (w33 : List jC) (rw_15 : Nat → Nat) (z4 : Nat) (c5 : Nat), (RM n mv rw_15 nx b bt kn en dn rf kk th w33) → (FR b b w w33) → (∀ i, rw_15 i < 7) → (c5 ≤ fc n) → (0 < c5 → bitL bt (c5 - 1) = true) → (RBt n bt (fun j => mv (a * 7 + j)) c z4 (KK (fc n) c5)) → (mu (fc n) c5 < fuel) → J X mX8_reachNow d kc ks 15 [some (.ref 19), some (.int (nI s)), some (.int (nI a)), some (.int (nI c)), some (.int (nI z4)), some (.int (nI c5 + Int32.ofInt (-1))), none, none] [] w33 (pI (fun v => v = nI (sBv (RP n (Gg n (gS (mW n mv) s 6)) (fun j => mv (a * 7 + j)) c) n)) (fun w' => ∃ (rw' : Nat → Nat), RM n mv rw' nx b bt kn en dn rf kk th w' ∧ FR b b w w' ∧ (∀ i, rw' i < 7))) := by
      intro fuellp15_32
      induction fuellp15_32 with
      | zero => intros; omega
      | succ fuellp15_32 ihlp15_32 =>
        intro w33 rw_15 z4 c5 hR34 hF35 gr36 hv15_0 hv15_1 hv15_2 hf37
        obtain ⟨h19_38, h20_38, h21_38, h22_38, hb_38, hbl_38, hb3_38⟩ := hR34
        refine J_iload (pc := 15) dX8_reachNow_15 rfl ?_
        refine J_if_ltM (pc := 17) (tgt := 116) dX8_reachNow_17 (by decide) (by omega) (fun ht39 => ?_) (fun hf40 => ?_)
        · refine J_iload (pc := 116) dX8_reachNow_116 rfl ?_
          exact J_iret (pc := 118) dX8_reachNow_118 rfl ⟨(congrArg nI (by exact RBt_end (by omega) hn2 hBX (fun j hj => (hy1 a hy3).1 j hj) hy4 (by have h := hv15_2; rw [show c5 = 0 by omega, KK_0] at h; exact h))), ⟨rw_15, ⟨h19_38, h20_38, h21_38, h22_38, hb_38, hbl_38, hb3_38⟩, hF35, gr36⟩⟩
        · rw [nI_m1 hf40]
          have hb15 := hv15_1 (by omega)
          have hprev : RBt n bt (fun j => mv (a * 7 + j)) c z4 (c5 - 1) := by
            have h := hv15_2
            rw [KK_p (by omega)] at h
            exact h
          have hcn := (hy1 a hy3).1 c hy4
          refine J_aload_n (pc := 20) dX8_reachNow_20 rfl rfl rfl ?_
          refine J_iload (pc := 21) dX8_reachNow_21 rfl ?_
          refine J_aload_n (pc := 23) dX8_reachNow_23 rfl rfl rfl ?_
          refine J_get (pc := 24) (k := 2) dX8_reachNow_24 kC9 (by decide) ff_X8_17 h19_38 rfl ?_
          refine J_callV0 (pc := 27) (M := mX8_reachNow) (as := [.int (nI (c5 - 1)), .ref 21]) dX8_reachNow_27 fw_X8_rowOf fl_X8_78 fm_X8_rowOf fe_X8_rowOf h19_38 (by decide) rfl rfl rfl (c_X8_rowOf hs (d := d - 1) (Nat.le_trans (by decide) hdm) (w := w33) (n := n) (mv := mv) (rw := rw_15) (nx := nx) (b := b) (bt := bt) (kn := kn) (en := en) (dn := dn) (rf := rf) (kk := kk) (th := th) ⟨h19_38, h20_38, h21_38, h22_38, hb_38, hbl_38, hb3_38⟩ hn1 hn2 gm gr36 gx (c5 - 1) (by first | assumption | omega) (kc := 0) (ks := 0)) hdp (st := []) (Nat.le_of_ble_eq_true rfl) rfl (kr_V fun w41 hw41 => ?_) kx_V
          obtain ⟨rw41, hR41, hFc41, hgrw41, hp41_0⟩ := hw41
          obtain ⟨h19_41, h20_41, h21_41, h22_41, hbb_41, hbl_41, hb3_41⟩ := hR41
          have hF41 := hF35.tr hFc41
          have hrow := hp41_0
          refine J_iconst (pc := 30) (v := nI 1) dX8_reachNow_30 (by decide) ?_
          refine J_istore (pc := 31) dX8_reachNow_31 (by decide) rfl ?_
          show J X mX8_reachNow d kc ks 33 [some (.ref 19), some (.int (nI s)), some (.int (nI a)), some (.int (nI c)), some (.int (nI z4)), some (.int (nI (c5 - 1))), some (.int (nI 1)), none] [] w41 _
          refine J_iconst (pc := 33) (v := nI 0) dX8_reachNow_33 (by decide) ?_
          refine J_istore (pc := 34) dX8_reachNow_34 (by decide) rfl ?_
          show J X mX8_reachNow d kc ks 36 [some (.ref 19), some (.int (nI s)), some (.int (nI a)), some (.int (nI c)), some (.int (nI z4)), some (.int (nI (c5 - 1))), some (.int (nI 1)), some (.int (nI 0))] [] w41 _
          have lp36_42 : ∀ (fuel : Nat) (y6 : Nat) (c7 : Nat), (y6 < 2) → (c7 ≤ c) → (STt rw41 (fun j => mv (a * 7 + j)) c c7 y6) → (c - c7 < fuel) → J X mX8_reachNow d kc ks 36 [some (.ref 19), some (.int (nI s)), some (.int (nI a)), some (.int (nI c)), some (.int (nI z4)), some (.int (nI (c5 - 1))), some (.int (nI y6)), some (.int (nI c7))] [] w41 (pI (fun v => v = nI (sBv (RP n (Gg n (gS (mW n mv) s 6)) (fun j => mv (a * 7 + j)) c) n)) (fun w' => ∃ (rw' : Nat → Nat), RM n mv rw' nx b bt kn en dn rf kk th w' ∧ FR b b w w' ∧ (∀ i, rw' i < 7))) := by
            intro fuellp36_42
            induction fuellp36_42 with
            | zero => intros; omega
            | succ fuellp36_42 ihlp36_42 =>
              intro y6 c7 hv36_0 hv36_1 hv36_2 hf43
              refine J_iload (pc := 36) dX8_reachNow_36 rfl ?_
              refine J_iload_n (pc := 38) dX8_reachNow_38 rfl rfl ?_
              refine J_icmp_geN (pc := 39) (tgt := 80) dX8_reachNow_39 (by decide) (by omega) (by omega) (fun ht44 => ?_) (fun hf45 => ?_)
              · have hgg : ∀ j, j < c → rw41 ((fun j => mv (a * 7 + j)) j) = rwF n (c5 - 1) ((fun j => mv (a * 7 + j)) j) := fun j hj => hrow _ ((hy1 a hy3).1 j (by omega))
                refine J_iload (pc := 80) dX8_reachNow_80 rfl ?_
                refine J_if_eqN (pc := 82) (tgt := 103) dX8_reachNow_82 (by decide) (by omega) (fun ht46 => ?_) (fun hf47 => ?_)
                · have hst : RBt n bt (fun j => mv (a * 7 + j)) c z4 (c5 - 1 + 1) := by first | exact RBt_s hprev hb15 hyes (hrow _ hcn) (by omega) | exact RBt_n hprev (STt_f (rd := (fun j => mv (a * 7 + j))) hv36_2 (by assumption) hgg)
                  refine J_aload_n (pc := 103) dX8_reachNow_103 rfl rfl rfl ?_
                  refine J_iload (pc := 104) dX8_reachNow_104 rfl ?_
                  refine J_iconst (pc := 106) (v := nI 1) dX8_reachNow_106 (by decide) ?_
                  refine J_iaddN (pc := 107) dX8_reachNow_107 ?_
                  refine J_callV0 (pc := 108) (M := mX8_reachNow) (as := [.int (nI ((c5 - 1) + 1))]) dX8_reachNow_108 fw_X8_from fl_X8_137 fm_X8_from fe_X8_from h19_41 (by decide) rfl rfl rfl (c_X8_from hs (d := d - 1) (Nat.le_trans (by decide) hdm) (w := w41) (n := n) (mv := mv) (rw := rw41) (nx := nx) (b := b) (bt := bt) (kn := kn) (en := en) (dn := dn) (rf := rf) (kk := kk) (th := th) ⟨h19_41, h20_41, h21_41, h22_41, hbb_41, hbl_41, hb3_41⟩ hn1 hn2 gm hgrw41 gx ((c5 - 1) + 1) (by first | assumption | omega) (kc := 0) (ks := 0)) hdp (st := []) (Nat.le_of_ble_eq_true rfl) rfl (kr_P fun v48 hv48 => ?_) kx_I
                  rcases hv48 with ⟨rfl, hk48_0⟩ | ⟨q48, rfl, hk48_0, hk48_1, hk48_2, hk48_3⟩
                  · refine J_istore (pc := 111) dX8_reachNow_111 (by decide) rfl ?_
                    show J X mX8_reachNow d kc ks 113 [some (.ref 19), some (.int (nI s)), some (.int (nI a)), some (.int (nI c)), some (.int (nI z4)), some (.int (-1)), some (.int (nI y6)), some (.int (nI c7))] [] w41 _
                    refine J_goto (pc := 113) (tgt := 15) dX8_reachNow_113 (by decide) ?_
                    exact J_sub (L' := [some (.ref 19), some (.int (nI s)), some (.int (nI a)), some (.int (nI c)), some (.int (nI z4)), some (.int (nI 0 + Int32.ofInt (-1))), none, none]) ⟨rfl, ⟨rfl, ⟨rfl, ⟨rfl, ⟨rfl, ⟨(congrArg (fun z => some (Value.int z)) (by decide : (-1 : Int32) = nI 0 + Int32.ofInt (-1))), trivial⟩⟩⟩⟩⟩⟩ (ihlp15_32 w41 rw41 z4 0 ⟨h19_41, h20_41, h21_41, h22_41, hbb_41, hbl_41, hb3_41⟩ hF41 hgrw41 (by first | assumption | omega) (by intro h; first | (rw [Nat.add_sub_cancel]; assumption) | omega) (by first | exact KI_0 RBt_f hst (by omega) (by assumption) | exact KI_1 RBt_f hst (by omega) (by assumption)) (by exact mu_dec (by assumption) (by omega) (by omega) (by omega)))
                  · refine J_istore (pc := 111) dX8_reachNow_111 (by decide) rfl ?_
                    show J X mX8_reachNow d kc ks 113 [some (.ref 19), some (.int (nI s)), some (.int (nI a)), some (.int (nI c)), some (.int (nI z4)), some (.int (nI q48)), some (.int (nI y6)), some (.int (nI c7))] [] w41 _
                    refine J_goto (pc := 113) (tgt := 15) dX8_reachNow_113 (by decide) ?_
                    exact J_sub (L' := [some (.ref 19), some (.int (nI s)), some (.int (nI a)), some (.int (nI c)), some (.int (nI z4)), some (.int (nI (q48 + 1) + Int32.ofInt (-1))), none, none]) ⟨rfl, ⟨rfl, ⟨rfl, ⟨rfl, ⟨rfl, ⟨(congrArg (fun z => some (Value.int z)) (nI_n1 q48)), trivial⟩⟩⟩⟩⟩⟩ (ihlp15_32 w41 rw41 z4 (q48 + 1) ⟨h19_41, h20_41, h21_41, h22_41, hbb_41, hbl_41, hb3_41⟩ hF41 hgrw41 (by first | assumption | omega) (by intro h; first | (rw [Nat.add_sub_cancel]; assumption) | omega) (by first | exact KI_0 RBt_f hst (by omega) (by assumption) | exact KI_1 RBt_f hst (by omega) (by assumption)) (by exact mu_dec (by assumption) (by omega) (by omega) (by omega)))
                · have hyes := STt_y (rd := (fun j => mv (a * 7 + j))) (g := rwF n (c5 - 1)) hv36_2 (by omega) (by assumption) hgg
                  have hrv : rw41 (mv (a * 7 + c)) < n := by rw [hrow _ hcn]; exact (rwF_Pn (by omega)).1 _ hcn
                  have hz4 := hprev.1
                  have hp2 : 2 ^ rw41 (mv (a * 7 + c)) < 2 ^ 31 := Nat.pow_lt_pow_right (by decide) (by omega)
                  refine J_iload (pc := 85) dX8_reachNow_85 rfl ?_
                  refine J_iconst (pc := 87) (v := nI 1) dX8_reachNow_87 (by decide) ?_
                  refine J_aload_n (pc := 88) dX8_reachNow_88 rfl rfl rfl ?_
                  refine J_get (pc := 89) (k := 2) dX8_reachNow_89 kC9 (by decide) ff_X8_17 h19_41 rfl ?_
                  refine J_aload_n (pc := 92) dX8_reachNow_92 rfl rfl rfl ?_
                  refine J_iload_n (pc := 93) dX8_reachNow_93 rfl rfl ?_
                  refine J_iload_n (pc := 94) dX8_reachNow_94 rfl rfl ?_
                  refine J_callV0 (pc := 95) (M := mX8_reachNow) (as := [.int (nI a), .int (nI c)]) dX8_reachNow_95 fw_X8_at fl_X8_82 fm_X8_at fe_X8_at h19_41 (by decide) rfl rfl rfl (c_X8_at hs (d := d - 1) (Nat.le_trans (by decide) hdm) (w := w41) (n := n) (mv := mv) (rw := rw41) (nx := nx) (b := b) (bt := bt) (kn := kn) (en := en) (dn := dn) (rf := rf) (kk := kk) (th := th) ⟨h19_41, h20_41, h21_41, h22_41, hbb_41, hbl_41, hb3_41⟩ hn1 hn2 gm hgrw41 gx a c (by first | assumption | omega) (by first | assumption | omega) (kc := 0) (ks := 0)) hdp (st := [.ref 21, .int (nI 1), .int (nI z4)]) (Nat.le_of_ble_eq_true rfl) rfl (kr_P fun v49 hv49 => ?_) kx_I
                  subst hv49
                  have hq50 := gm (a * 7 + c)
                  refine J_ialdF (pc := 98) dX8_reachNow_98 h21_41 (by omega) (by decide) ?_
                  have hq51 := hgrw41 (mv (a * 7 + c))
                  refine J_shlOne (pc := 99) dX8_reachNow_99 (by omega) ?_
                  refine J_iorN (pc := 100) dX8_reachNow_100 (by omega) (by omega) ?_
                  refine J_istore (pc := 101) dX8_reachNow_101 (by decide) rfl ?_
                  show J X mX8_reachNow d kc ks 103 [some (.ref 19), some (.int (nI s)), some (.int (nI a)), some (.int (nI c)), some (.int (nI (z4 ||| (2 ^ (rw41 (mv (a * 7 + c))))))), some (.int (nI (c5 - 1))), some (.int (nI y6)), some (.int (nI c7))] [] w41 _
                  have hst : RBt n bt (fun j => mv (a * 7 + j)) c (z4 ||| (2 ^ (rw41 (mv (a * 7 + c))))) (c5 - 1 + 1) := by first | exact RBt_s hprev hb15 hyes (hrow _ hcn) (by omega) | exact RBt_n hprev (STt_f (rd := (fun j => mv (a * 7 + j))) hv36_2 (by assumption) hgg)
                  refine J_aload_n (pc := 103) dX8_reachNow_103 rfl rfl rfl ?_
                  refine J_iload (pc := 104) dX8_reachNow_104 rfl ?_
                  refine J_iconst (pc := 106) (v := nI 1) dX8_reachNow_106 (by decide) ?_
                  refine J_iaddN (pc := 107) dX8_reachNow_107 ?_
                  refine J_callV0 (pc := 108) (M := mX8_reachNow) (as := [.int (nI ((c5 - 1) + 1))]) dX8_reachNow_108 fw_X8_from fl_X8_137 fm_X8_from fe_X8_from h19_41 (by decide) rfl rfl rfl (c_X8_from hs (d := d - 1) (Nat.le_trans (by decide) hdm) (w := w41) (n := n) (mv := mv) (rw := rw41) (nx := nx) (b := b) (bt := bt) (kn := kn) (en := en) (dn := dn) (rf := rf) (kk := kk) (th := th) ⟨h19_41, h20_41, h21_41, h22_41, hbb_41, hbl_41, hb3_41⟩ hn1 hn2 gm hgrw41 gx ((c5 - 1) + 1) (by first | assumption | omega) (kc := 0) (ks := 0)) hdp (st := []) (Nat.le_of_ble_eq_true rfl) rfl (kr_P fun v52 hv52 => ?_) kx_I
                  rcases hv52 with ⟨rfl, hk52_0⟩ | ⟨q52, rfl, hk52_0, hk52_1, hk52_2, hk52_3⟩
                  · refine J_istore (pc := 111) dX8_reachNow_111 (by decide) rfl ?_
                    show J X mX8_reachNow d kc ks 113 [some (.ref 19), some (.int (nI s)), some (.int (nI a)), some (.int (nI c)), some (.int (nI (z4 ||| (2 ^ (rw41 (mv (a * 7 + c))))))), some (.int (-1)), some (.int (nI y6)), some (.int (nI c7))] [] w41 _
                    refine J_goto (pc := 113) (tgt := 15) dX8_reachNow_113 (by decide) ?_
                    exact J_sub (L' := [some (.ref 19), some (.int (nI s)), some (.int (nI a)), some (.int (nI c)), some (.int (nI (z4 ||| (2 ^ (rw41 (mv (a * 7 + c))))))), some (.int (nI 0 + Int32.ofInt (-1))), none, none]) ⟨rfl, ⟨rfl, ⟨rfl, ⟨rfl, ⟨rfl, ⟨(congrArg (fun z => some (Value.int z)) (by decide : (-1 : Int32) = nI 0 + Int32.ofInt (-1))), trivial⟩⟩⟩⟩⟩⟩ (ihlp15_32 w41 rw41 (z4 ||| (2 ^ (rw41 (mv (a * 7 + c))))) 0 ⟨h19_41, h20_41, h21_41, h22_41, hbb_41, hbl_41, hb3_41⟩ hF41 hgrw41 (by first | assumption | omega) (by intro h; first | (rw [Nat.add_sub_cancel]; assumption) | omega) (by first | exact KI_0 RBt_f hst (by omega) (by assumption) | exact KI_1 RBt_f hst (by omega) (by assumption)) (by exact mu_dec (by assumption) (by omega) (by omega) (by omega)))
                  · refine J_istore (pc := 111) dX8_reachNow_111 (by decide) rfl ?_
                    show J X mX8_reachNow d kc ks 113 [some (.ref 19), some (.int (nI s)), some (.int (nI a)), some (.int (nI c)), some (.int (nI (z4 ||| (2 ^ (rw41 (mv (a * 7 + c))))))), some (.int (nI q52)), some (.int (nI y6)), some (.int (nI c7))] [] w41 _
                    refine J_goto (pc := 113) (tgt := 15) dX8_reachNow_113 (by decide) ?_
                    exact J_sub (L' := [some (.ref 19), some (.int (nI s)), some (.int (nI a)), some (.int (nI c)), some (.int (nI (z4 ||| (2 ^ (rw41 (mv (a * 7 + c))))))), some (.int (nI (q52 + 1) + Int32.ofInt (-1))), none, none]) ⟨rfl, ⟨rfl, ⟨rfl, ⟨rfl, ⟨rfl, ⟨(congrArg (fun z => some (Value.int z)) (nI_n1 q52)), trivial⟩⟩⟩⟩⟩⟩ (ihlp15_32 w41 rw41 (z4 ||| (2 ^ (rw41 (mv (a * 7 + c))))) (q52 + 1) ⟨h19_41, h20_41, h21_41, h22_41, hbb_41, hbl_41, hb3_41⟩ hF41 hgrw41 (by first | assumption | omega) (by intro h; first | (rw [Nat.add_sub_cancel]; assumption) | omega) (by first | exact KI_0 RBt_f hst (by omega) (by assumption) | exact KI_1 RBt_f hst (by omega) (by assumption)) (by exact mu_dec (by assumption) (by omega) (by omega) (by omega)))
              · refine J_iload (pc := 42) dX8_reachNow_42 rfl ?_
                refine J_aload_n (pc := 44) dX8_reachNow_44 rfl rfl rfl ?_
                refine J_get (pc := 45) (k := 2) dX8_reachNow_45 kC9 (by decide) ff_X8_17 h19_41 rfl ?_
                refine J_aload_n (pc := 48) dX8_reachNow_48 rfl rfl rfl ?_
                refine J_iload_n (pc := 49) dX8_reachNow_49 rfl rfl ?_
                refine J_iload (pc := 50) dX8_reachNow_50 rfl ?_
                refine J_callV0 (pc := 52) (M := mX8_reachNow) (as := [.int (nI a), .int (nI c7)]) dX8_reachNow_52 fw_X8_at fl_X8_82 fm_X8_at fe_X8_at h19_41 (by decide) rfl rfl rfl (c_X8_at hs (d := d - 1) (Nat.le_trans (by decide) hdm) (w := w41) (n := n) (mv := mv) (rw := rw41) (nx := nx) (b := b) (bt := bt) (kn := kn) (en := en) (dn := dn) (rf := rf) (kk := kk) (th := th) ⟨h19_41, h20_41, h21_41, h22_41, hbb_41, hbl_41, hb3_41⟩ hn1 hn2 gm hgrw41 gx a c7 (by first | assumption | omega) (by first | assumption | omega) (kc := 0) (ks := 0)) hdp (st := [.ref 21, .int (nI y6)]) (Nat.le_of_ble_eq_true rfl) rfl (kr_P fun v53 hv53 => ?_) kx_I
                subst hv53
                have hq54 := gm (a * 7 + c7)
                refine J_ialdF (pc := 55) dX8_reachNow_55 h21_41 (by omega) (by decide) ?_
                have hq55 := hgrw41 (mv (a * 7 + c7))
                refine J_aload_n (pc := 56) dX8_reachNow_56 rfl rfl rfl ?_
                refine J_iload_n (pc := 57) dX8_reachNow_57 rfl rfl ?_
                refine J_iload (pc := 58) dX8_reachNow_58 rfl ?_
                refine J_callV0 (pc := 60) (M := mX8_reachNow) (as := [.int (nI a), .int (nI c7)]) dX8_reachNow_60 fw_X8_at fl_X8_82 fm_X8_at fe_X8_at h19_41 (by decide) rfl rfl rfl (c_X8_at hs (d := d - 1) (Nat.le_trans (by decide) hdm) (w := w41) (n := n) (mv := mv) (rw := rw41) (nx := nx) (b := b) (bt := bt) (kn := kn) (en := en) (dn := dn) (rf := rf) (kk := kk) (th := th) ⟨h19_41, h20_41, h21_41, h22_41, hbb_41, hbl_41, hb3_41⟩ hn1 hn2 gm hgrw41 gx a c7 (by first | assumption | omega) (by first | assumption | omega) (kc := 0) (ks := 0)) hdp (st := [.int (nI (rw41 (mv (a * 7 + c7)))), .int (nI y6)]) (Nat.le_of_ble_eq_true rfl) rfl (kr_P fun v56 hv56 => ?_) kx_I
                subst hv56
                have hq57 := gm (a * 7 + c7)
                refine J_icmp_neN (pc := 63) (tgt := 70) dX8_reachNow_63 (by decide) (by omega) (by omega) (fun ht58 => ?_) (fun hf59 => ?_)
                · refine J_iconst (pc := 70) (v := nI 0) dX8_reachNow_70 (by decide) ?_
                  refine J_iand1 (pc := 71) dX8_reachNow_71 (by omega) (by omega) ?_
                  refine J_istore (pc := 72) dX8_reachNow_72 (by decide) rfl ?_
                  show J X mX8_reachNow d kc ks 74 [some (.ref 19), some (.int (nI s)), some (.int (nI a)), some (.int (nI c)), some (.int (nI z4)), some (.int (nI (c5 - 1))), some (.int (nI (y6 * 0))), some (.int (nI c7))] [] w41 _
                  refine J_iincN (pc := 74) (b := 1) dX8_reachNow_74 rfl (by decide) (by decide) rfl ?_
                  show J X mX8_reachNow d kc ks 77 [some (.ref 19), some (.int (nI s)), some (.int (nI a)), some (.int (nI c)), some (.int (nI z4)), some (.int (nI (c5 - 1))), some (.int (nI (y6 * 0))), some (.int (nI (c7 + 1)))] [] w41 _
                  refine J_goto (pc := 77) (tgt := 36) dX8_reachNow_77 (by decide) ?_
                  exact J_sub (L' := [some (.ref 19), some (.int (nI s)), some (.int (nI a)), some (.int (nI c)), some (.int (nI z4)), some (.int (nI (c5 - 1))), some (.int (nI (y6 * 0))), some (.int (nI (c7 + 1)))]) ⟨rfl, ⟨rfl, ⟨rfl, ⟨rfl, ⟨rfl, ⟨rfl, ⟨rfl, ⟨rfl, trivial⟩⟩⟩⟩⟩⟩⟩⟩ (ihlp36_42 (y6 * 0) (c7 + 1) (by first | assumption | omega) (by first | assumption | omega) (by first | exact STt_1 (rd := (fun j => mv (a * 7 + j))) hv36_2 (by assumption) | exact STt_n (rd := (fun j => mv (a * 7 + j))) (by omega) (by assumption)) (by omega))
                · refine J_iconst (pc := 66) (v := nI 1) dX8_reachNow_66 (by decide) ?_
                  refine J_goto (pc := 67) (tgt := 71) dX8_reachNow_67 (by decide) ?_
                  have hm60 := Nat.mod_lt y6 (show 0 < 2 ^ 1 by decide)
                  refine J_iandN (pc := 71) 1 dX8_reachNow_71 (by omega) (by decide) ?_
                  refine J_istore (pc := 72) dX8_reachNow_72 (by decide) rfl ?_
                  show J X mX8_reachNow d kc ks 74 [some (.ref 19), some (.int (nI s)), some (.int (nI a)), some (.int (nI c)), some (.int (nI z4)), some (.int (nI (c5 - 1))), some (.int (nI (y6 % 2 ^ 1))), some (.int (nI c7))] [] w41 _
                  refine J_iincN (pc := 74) (b := 1) dX8_reachNow_74 rfl (by decide) (by decide) rfl ?_
                  show J X mX8_reachNow d kc ks 77 [some (.ref 19), some (.int (nI s)), some (.int (nI a)), some (.int (nI c)), some (.int (nI z4)), some (.int (nI (c5 - 1))), some (.int (nI (y6 % 2 ^ 1))), some (.int (nI (c7 + 1)))] [] w41 _
                  refine J_goto (pc := 77) (tgt := 36) dX8_reachNow_77 (by decide) ?_
                  exact J_sub (L' := [some (.ref 19), some (.int (nI s)), some (.int (nI a)), some (.int (nI c)), some (.int (nI z4)), some (.int (nI (c5 - 1))), some (.int (nI (y6 % 2 ^ 1))), some (.int (nI (c7 + 1)))]) ⟨rfl, ⟨rfl, ⟨rfl, ⟨rfl, ⟨rfl, ⟨rfl, ⟨rfl, ⟨rfl, trivial⟩⟩⟩⟩⟩⟩⟩⟩ (ihlp36_42 (y6 % 2 ^ 1) (c7 + 1) (by first | assumption | omega) (by first | assumption | omega) (by first | exact STt_1 (rd := (fun j => mv (a * 7 + j))) hv36_2 (by assumption) | exact STt_n (rd := (fun j => mv (a * 7 + j))) (by omega) (by assumption)) (by omega))
          exact J_sub (L' := [some (.ref 19), some (.int (nI s)), some (.int (nI a)), some (.int (nI c)), some (.int (nI z4)), some (.int (nI (c5 - 1))), some (.int (nI 1)), some (.int (nI 0))]) ⟨rfl, ⟨rfl, ⟨rfl, ⟨rfl, ⟨rfl, ⟨rfl, ⟨rfl, ⟨rfl, trivial⟩⟩⟩⟩⟩⟩⟩⟩ (lp36_42 _ 1 0 (by first | assumption | omega) (by first | assumption | omega) (by exact STt_0) (Nat.lt_succ_self _))
    exact J_sub (L' := [some (.ref 19), some (.int (nI s)), some (.int (nI a)), some (.int (nI c)), some (.int (nI 0)), some (.int (nI (q2 + 1) + Int32.ofInt (-1))), none, none]) ⟨rfl, ⟨rfl, ⟨rfl, ⟨rfl, ⟨rfl, ⟨(congrArg (fun z => some (Value.int z)) (nI_n1 q2)), trivial⟩⟩⟩⟩⟩⟩ (lp15_32 _ w rw 0 (q2 + 1) ⟨h19, h20, h21, h22, hbb, hbl, hb3⟩ hF gr (by first | assumption | omega) (by intro h; first | (rw [Nat.add_sub_cancel]; assumption) | omega) (by first | exact KI_0 RBt_f RBt_0 (Nat.zero_le _) (by assumption) | exact KI_1 RBt_f RBt_0 (Nat.zero_le _) (by assumption)) (Nat.lt_succ_self _))
set_option maxRecDepth 100000 in
set_option maxHeartbeats 4000000 in
theorem c_X8_evenNow_atkx {X : jX} (hs : X.1.stackTraces = false) {d : Nat} (hd : 4 ≤ d) {n : Nat} {mv rw nx : Nat → Nat} {b : Nat} {bt : List Int32} {kn en dn rf kk th : Int32} {w : List jC} (hR : RM n mv rw nx b bt kn en dn rf kk th w) (hn1 : 2 ≤ n) (hn2 : n ≤ 7) (gm : ∀ i, mv i < 7) (gr : ∀ i, rw i < 7) (gx : ∀ i, nx i < 7) (s : Nat) (hy0 : s < 64) (hy1 : PM n mv) (hy2 : kn = nI s ∧ BX n mv s bt en) {kc ks : Nat} : jMet X mX8_evenNow d kc ks [.ref 19, .int (nI s)] w (pI (fun v => v = nI (cd n (fun x => (Gg n (gS (mW n mv) s 6)) x ∧ sg n x = nI 1))) (fun w' => ∃ (rw' : Nat → Nat), RM n mv rw' nx b bt kn en dn rf kk th w' ∧ FR b b w w' ∧ (∀ i, rw' i < 7))) := by
  refine jMet_of hs (by decide +kernel) (Nat.le_of_ble_eq_true rfl) (L := [some (.ref 19), some (.int (nI s)), none, none]) rfl ?_
  have hdm : 3 ≤ d - 1 := by omega
  have hdp : d - 1 + 1 ≤ d := by omega
  have hfc := fc_7 hn2
  have hfp := fc_pos n
  obtain ⟨h19, h20, h21, h22, hbb, hbl, hb3⟩ := hR
  have hF : FR b b w w := FR.rf
  refine J_aload_n (pc := 0) dX8_evenNow_0 rfl rfl rfl ?_
  refine J_iload_n (pc := 1) dX8_evenNow_1 rfl rfl ?_
  refine J_callV0 (pc := 2) (M := mX8_evenNow) (as := [.int (nI s)]) dX8_evenNow_2 fw_X8_group fl_X8_99 fm_X8_group fe_X8_group h19 (by decide) rfl rfl rfl (c_X8_group_atk hs (d := d - 1) (Nat.le_trans (by decide) hdm) (w := w) (n := n) (mv := mv) (rw := rw) (nx := nx) (b := b) (bt := bt) (kn := kn) (en := en) (dn := dn) (rf := rf) (kk := kk) (th := th) ⟨h19, h20, h21, h22, hbb, hbl, hb3⟩ hn1 hn2 gm gr gx s (by assumption) (by exact hy2.1) (kc := 0) (ks := 0)) hdp (st := []) (Nat.le_of_ble_eq_true rfl) rfl (kr_V fun w1 hw1 => ?_) kx_V
  obtain rfl := hw1.symm
  have hBXE := hy2.2; have hBX := hBXE.1
  refine J_iconst (pc := 5) (v := nI 0) dX8_evenNow_5 (by decide) ?_
  refine J_istore_n (pc := 6) dX8_evenNow_6 rfl (by decide) rfl ?_
  show J X mX8_evenNow d kc ks 7 [some (.ref 19), some (.int (nI s)), some (.int (nI 0)), none] [] w _
  refine J_aload_n (pc := 7) dX8_evenNow_7 rfl rfl rfl ?_
  refine J_iconst (pc := 8) (v := nI 0) dX8_evenNow_8 (by decide) ?_
  refine J_callV0 (pc := 9) (M := mX8_evenNow) (as := [.int (nI 0)]) dX8_evenNow_9 fw_X8_from fl_X8_137 fm_X8_from fe_X8_from h19 (by decide) rfl rfl rfl (c_X8_from hs (d := d - 1) (Nat.le_trans (by decide) hdm) (w := w) (n := n) (mv := mv) (rw := rw) (nx := nx) (b := b) (bt := bt) (kn := kn) (en := en) (dn := dn) (rf := rf) (kk := kk) (th := th) ⟨h19, h20, h21, h22, hbb, hbl, hb3⟩ hn1 hn2 gm gr gx 0 (by first | assumption | omega) (kc := 0) (ks := 0)) hdp (st := []) (Nat.le_of_ble_eq_true rfl) rfl (kr_P fun v2 hv2 => ?_) kx_I
  rcases hv2 with ⟨rfl, hk2_0⟩ | ⟨q2, rfl, hk2_0, hk2_1, hk2_2, hk2_3⟩
  · refine J_istore_n (pc := 12) dX8_evenNow_12 rfl (by decide) rfl ?_
    show J X mX8_evenNow d kc ks 13 [some (.ref 19), some (.int (nI s)), some (.int (nI 0)), some (.int (-1))] [] w _
    have lp13_3 : ∀ (fuel : Nat) (w4 : List jC) (rw_13 : Nat → Nat) (z2 : Nat) (c3 : Nat), (RM n mv rw_13 nx b bt kn en dn rf kk th w4) → (FR b b w w4) → (∀ i, rw_13 i < 7) → (c3 ≤ fc n) → (0 < c3 → bitL bt (c3 - 1) = true) → (CTt bt (fun k => sg n (XM n k) = nI 1) z2 (KK (fc n) c3)) → (mu (fc n) c3 < fuel) → J X mX8_evenNow d kc ks 13 [some (.ref 19), some (.int (nI s)), some (.int (nI z2)), some (.int (nI c3 + Int32.ofInt (-1)))] [] w4 (pI (fun v => v = nI (cd n (fun x => (Gg n (gS (mW n mv) s 6)) x ∧ sg n x = nI 1))) (fun w' => ∃ (rw' : Nat → Nat), RM n mv rw' nx b bt kn en dn rf kk th w' ∧ FR b b w w' ∧ (∀ i, rw' i < 7))) := by
      intro fuellp13_3
      induction fuellp13_3 with
      | zero => intros; omega
      | succ fuellp13_3 ihlp13_3 =>
        intro w4 rw_13 z2 c3 hR5 hF6 gr7 hv13_0 hv13_1 hv13_2 hf8
        obtain ⟨h19_9, h20_9, h21_9, h22_9, hb_9, hbl_9, hb3_9⟩ := hR5
        refine J_iload_n (pc := 13) dX8_evenNow_13 rfl rfl ?_
        refine J_if_ltM (pc := 14) (tgt := 58) dX8_evenNow_14 (by decide) (by omega) (fun ht10 => ?_) (fun hf11 => ?_)
        · refine J_iload_n (pc := 58) dX8_evenNow_58 rfl rfl ?_
          exact J_iret (pc := 59) dX8_evenNow_59 rfl ⟨(congrArg nI (by exact CTt_end hBX (fun k hk => Iff.rfl) (by have h := hv13_2; rw [show c3 = 0 by omega, KK_0] at h; exact h))), ⟨rw_13, ⟨h19_9, h20_9, h21_9, h22_9, hb_9, hbl_9, hb3_9⟩, hF6, gr7⟩⟩
        · rw [nI_m1 hf11]
          have hb13 := hv13_1 (by omega)
          have hprev : CTt bt (fun k => sg n (XM n k) = nI 1) z2 (c3 - 1) := by
            have h := hv13_2
            rw [KK_p (by omega)] at h
            exact h
          refine J_aload_n (pc := 17) dX8_evenNow_17 rfl rfl rfl ?_
          refine J_iload_n (pc := 18) dX8_evenNow_18 rfl rfl ?_
          refine J_aload_n (pc := 19) dX8_evenNow_19 rfl rfl rfl ?_
          refine J_get (pc := 20) (k := 2) dX8_evenNow_20 kC9 (by decide) ff_X8_17 h19_9 rfl ?_
          refine J_callV0 (pc := 23) (M := mX8_evenNow) (as := [.int (nI (c3 - 1)), .ref 21]) dX8_evenNow_23 fw_X8_rowOf fl_X8_78 fm_X8_rowOf fe_X8_rowOf h19_9 (by decide) rfl rfl rfl (c_X8_rowOf hs (d := d - 1) (Nat.le_trans (by decide) hdm) (w := w4) (n := n) (mv := mv) (rw := rw_13) (nx := nx) (b := b) (bt := bt) (kn := kn) (en := en) (dn := dn) (rf := rf) (kk := kk) (th := th) ⟨h19_9, h20_9, h21_9, h22_9, hb_9, hbl_9, hb3_9⟩ hn1 hn2 gm gr7 gx (c3 - 1) (by first | assumption | omega) (kc := 0) (ks := 0)) hdp (st := []) (Nat.le_of_ble_eq_true rfl) rfl (kr_V fun w12 hw12 => ?_) kx_V
          obtain ⟨rw12, hR12, hFc12, hgrw12, hp12_0⟩ := hw12
          obtain ⟨h19_12, h20_12, h21_12, h22_12, hbb_12, hbl_12, hb3_12⟩ := hR12
          have hF12 := hF6.tr hFc12
          have hrow := hp12_0
          refine J_iload_n (pc := 26) dX8_evenNow_26 rfl rfl ?_
          refine J_aload_n (pc := 27) dX8_evenNow_27 rfl rfl rfl ?_
          refine J_aload_n (pc := 28) dX8_evenNow_28 rfl rfl rfl ?_
          refine J_get (pc := 29) (k := 2) dX8_evenNow_29 kC9 (by decide) ff_X8_17 h19_12 rfl ?_
          refine J_iconst (pc := 32) (v := nI 0) dX8_evenNow_32 (by decide) ?_
          refine J_callV0 (pc := 33) (M := mX8_evenNow) (as := [.ref 21, .int (nI 0)]) dX8_evenNow_33 fw_X8_signOf fl_X8_115 fm_X8_signOf fe_X8_signOf h19_12 (by decide) rfl rfl rfl (c_X8_signOf_at21x hs (d := d - 1) (Nat.le_trans (by decide) hdm) (w := w12) (n := n) (mv := mv) (rw := rw12) (nx := nx) (b := b) (bt := bt) (kn := kn) (en := en) (dn := dn) (rf := rf) (kk := kk) (th := th) ⟨h19_12, h20_12, h21_12, h22_12, hbb_12, hbl_12, hb3_12⟩ hn1 hn2 gm hgrw12 gx 0 (by first | assumption | omega) (kc := 0) (ks := 0)) hdp (st := [.int (nI z2)]) (Nat.le_of_ble_eq_true rfl) rfl (kr_P fun v13 hv13 => ?_) kx_I
          have hsg := hv13.trans (sg_row (by omega) hn2 hrow).symm
          refine J_iconst (pc := 36) (v := nI 1) dX8_evenNow_36 (by decide) ?_
          refine J_icmp_ne (pc := 37) (tgt := 44) dX8_evenNow_37 (by decide) (fun ht14 => ?_) (fun hf15 => ?_)
          · refine J_iconst (pc := 44) (v := nI 0) dX8_evenNow_44 (by decide) ?_
            refine J_iaddN (pc := 45) dX8_evenNow_45 ?_
            refine J_istore_n (pc := 46) dX8_evenNow_46 rfl (by decide) rfl ?_
            show J X mX8_evenNow d kc ks 47 [some (.ref 19), some (.int (nI s)), some (.int (nI (z2 + 0))), some (.int (nI (c3 - 1)))] [] w12 _
            have hst : CTt bt (fun k => sg n (XM n k) = nI 1) (z2 + 0) (c3 - 1 + 1) := by first | exact CTt_y hprev hb13 (hsg.symm.trans (by assumption)) | exact CTt_n hprev (fun e => absurd (hsg.trans e) (by assumption))
            refine J_aload_n (pc := 47) dX8_evenNow_47 rfl rfl rfl ?_
            refine J_iload_n (pc := 48) dX8_evenNow_48 rfl rfl ?_
            refine J_iconst (pc := 49) (v := nI 1) dX8_evenNow_49 (by decide) ?_
            refine J_iaddN (pc := 50) dX8_evenNow_50 ?_
            refine J_callV0 (pc := 51) (M := mX8_evenNow) (as := [.int (nI ((c3 - 1) + 1))]) dX8_evenNow_51 fw_X8_from fl_X8_137 fm_X8_from fe_X8_from h19_12 (by decide) rfl rfl rfl (c_X8_from hs (d := d - 1) (Nat.le_trans (by decide) hdm) (w := w12) (n := n) (mv := mv) (rw := rw12) (nx := nx) (b := b) (bt := bt) (kn := kn) (en := en) (dn := dn) (rf := rf) (kk := kk) (th := th) ⟨h19_12, h20_12, h21_12, h22_12, hbb_12, hbl_12, hb3_12⟩ hn1 hn2 gm hgrw12 gx ((c3 - 1) + 1) (by first | assumption | omega) (kc := 0) (ks := 0)) hdp (st := []) (Nat.le_of_ble_eq_true rfl) rfl (kr_P fun v16 hv16 => ?_) kx_I
            rcases hv16 with ⟨rfl, hk16_0⟩ | ⟨q16, rfl, hk16_0, hk16_1, hk16_2, hk16_3⟩
            · refine J_istore_n (pc := 54) dX8_evenNow_54 rfl (by decide) rfl ?_
              show J X mX8_evenNow d kc ks 55 [some (.ref 19), some (.int (nI s)), some (.int (nI (z2 + 0))), some (.int (-1))] [] w12 _
              refine J_goto (pc := 55) (tgt := 13) dX8_evenNow_55 (by decide) ?_
              exact J_sub (L' := [some (.ref 19), some (.int (nI s)), some (.int (nI (z2 + 0))), some (.int (nI 0 + Int32.ofInt (-1)))]) ⟨rfl, ⟨rfl, ⟨rfl, ⟨(congrArg (fun z => some (Value.int z)) (by decide : (-1 : Int32) = nI 0 + Int32.ofInt (-1))), trivial⟩⟩⟩⟩ (ihlp13_3 w12 rw12 (z2 + 0) 0 ⟨h19_12, h20_12, h21_12, h22_12, hbb_12, hbl_12, hb3_12⟩ hF12 hgrw12 (by first | assumption | omega) (by intro h; first | (rw [Nat.add_sub_cancel]; assumption) | omega) (by first | exact KI_0 CTt_f hst (by omega) (by assumption) | exact KI_1 CTt_f hst (by omega) (by assumption)) (by exact mu_dec (by assumption) (by omega) (by omega) (by omega)))
            · refine J_istore_n (pc := 54) dX8_evenNow_54 rfl (by decide) rfl ?_
              show J X mX8_evenNow d kc ks 55 [some (.ref 19), some (.int (nI s)), some (.int (nI (z2 + 0))), some (.int (nI q16))] [] w12 _
              refine J_goto (pc := 55) (tgt := 13) dX8_evenNow_55 (by decide) ?_
              exact J_sub (L' := [some (.ref 19), some (.int (nI s)), some (.int (nI (z2 + 0))), some (.int (nI (q16 + 1) + Int32.ofInt (-1)))]) ⟨rfl, ⟨rfl, ⟨rfl, ⟨(congrArg (fun z => some (Value.int z)) (nI_n1 q16)), trivial⟩⟩⟩⟩ (ihlp13_3 w12 rw12 (z2 + 0) (q16 + 1) ⟨h19_12, h20_12, h21_12, h22_12, hbb_12, hbl_12, hb3_12⟩ hF12 hgrw12 (by first | assumption | omega) (by intro h; first | (rw [Nat.add_sub_cancel]; assumption) | omega) (by first | exact KI_0 CTt_f hst (by omega) (by assumption) | exact KI_1 CTt_f hst (by omega) (by assumption)) (by exact mu_dec (by assumption) (by omega) (by omega) (by omega)))
          · refine J_iconst (pc := 40) (v := nI 1) dX8_evenNow_40 (by decide) ?_
            refine J_goto (pc := 41) (tgt := 45) dX8_evenNow_41 (by decide) ?_
            refine J_iaddN (pc := 45) dX8_evenNow_45 ?_
            refine J_istore_n (pc := 46) dX8_evenNow_46 rfl (by decide) rfl ?_
            show J X mX8_evenNow d kc ks 47 [some (.ref 19), some (.int (nI s)), some (.int (nI (z2 + 1))), some (.int (nI (c3 - 1)))] [] w12 _
            have hst : CTt bt (fun k => sg n (XM n k) = nI 1) (z2 + 1) (c3 - 1 + 1) := by first | exact CTt_y hprev hb13 (hsg.symm.trans (by assumption)) | exact CTt_n hprev (fun e => absurd (hsg.trans e) (by assumption))
            refine J_aload_n (pc := 47) dX8_evenNow_47 rfl rfl rfl ?_
            refine J_iload_n (pc := 48) dX8_evenNow_48 rfl rfl ?_
            refine J_iconst (pc := 49) (v := nI 1) dX8_evenNow_49 (by decide) ?_
            refine J_iaddN (pc := 50) dX8_evenNow_50 ?_
            refine J_callV0 (pc := 51) (M := mX8_evenNow) (as := [.int (nI ((c3 - 1) + 1))]) dX8_evenNow_51 fw_X8_from fl_X8_137 fm_X8_from fe_X8_from h19_12 (by decide) rfl rfl rfl (c_X8_from hs (d := d - 1) (Nat.le_trans (by decide) hdm) (w := w12) (n := n) (mv := mv) (rw := rw12) (nx := nx) (b := b) (bt := bt) (kn := kn) (en := en) (dn := dn) (rf := rf) (kk := kk) (th := th) ⟨h19_12, h20_12, h21_12, h22_12, hbb_12, hbl_12, hb3_12⟩ hn1 hn2 gm hgrw12 gx ((c3 - 1) + 1) (by first | assumption | omega) (kc := 0) (ks := 0)) hdp (st := []) (Nat.le_of_ble_eq_true rfl) rfl (kr_P fun v17 hv17 => ?_) kx_I
            rcases hv17 with ⟨rfl, hk17_0⟩ | ⟨q17, rfl, hk17_0, hk17_1, hk17_2, hk17_3⟩
            · refine J_istore_n (pc := 54) dX8_evenNow_54 rfl (by decide) rfl ?_
              show J X mX8_evenNow d kc ks 55 [some (.ref 19), some (.int (nI s)), some (.int (nI (z2 + 1))), some (.int (-1))] [] w12 _
              refine J_goto (pc := 55) (tgt := 13) dX8_evenNow_55 (by decide) ?_
              exact J_sub (L' := [some (.ref 19), some (.int (nI s)), some (.int (nI (z2 + 1))), some (.int (nI 0 + Int32.ofInt (-1)))]) ⟨rfl, ⟨rfl, ⟨rfl, ⟨(congrArg (fun z => some (Value.int z)) (by decide : (-1 : Int32) = nI 0 + Int32.ofInt (-1))), trivial⟩⟩⟩⟩ (ihlp13_3 w12 rw12 (z2 + 1) 0 ⟨h19_12, h20_12, h21_12, h22_12, hbb_12, hbl_12, hb3_12⟩ hF12 hgrw12 (by first | assumption | omega) (by intro h; first | (rw [Nat.add_sub_cancel]; assumption) | omega) (by first | exact KI_0 CTt_f hst (by omega) (by assumption) | exact KI_1 CTt_f hst (by omega) (by assumption)) (by exact mu_dec (by assumption) (by omega) (by omega) (by omega)))
            · refine J_istore_n (pc := 54) dX8_evenNow_54 rfl (by decide) rfl ?_
              show J X mX8_evenNow d kc ks 55 [some (.ref 19), some (.int (nI s)), some (.int (nI (z2 + 1))), some (.int (nI q17))] [] w12 _
              refine J_goto (pc := 55) (tgt := 13) dX8_evenNow_55 (by decide) ?_
              exact J_sub (L' := [some (.ref 19), some (.int (nI s)), some (.int (nI (z2 + 1))), some (.int (nI (q17 + 1) + Int32.ofInt (-1)))]) ⟨rfl, ⟨rfl, ⟨rfl, ⟨(congrArg (fun z => some (Value.int z)) (nI_n1 q17)), trivial⟩⟩⟩⟩ (ihlp13_3 w12 rw12 (z2 + 1) (q17 + 1) ⟨h19_12, h20_12, h21_12, h22_12, hbb_12, hbl_12, hb3_12⟩ hF12 hgrw12 (by first | assumption | omega) (by intro h; first | (rw [Nat.add_sub_cancel]; assumption) | omega) (by first | exact KI_0 CTt_f hst (by omega) (by assumption) | exact KI_1 CTt_f hst (by omega) (by assumption)) (by exact mu_dec (by assumption) (by omega) (by omega) (by omega)))
    exact J_sub (L' := [some (.ref 19), some (.int (nI s)), some (.int (nI 0)), some (.int (nI 0 + Int32.ofInt (-1)))]) ⟨rfl, ⟨rfl, ⟨rfl, ⟨(congrArg (fun z => some (Value.int z)) (by decide : (-1 : Int32) = nI 0 + Int32.ofInt (-1))), trivial⟩⟩⟩⟩ (lp13_3 _ w rw 0 0 ⟨h19, h20, h21, h22, hbb, hbl, hb3⟩ hF gr (by first | assumption | omega) (by intro h; first | (rw [Nat.add_sub_cancel]; assumption) | omega) (by first | exact KI_0 CTt_f CTt_0 (Nat.zero_le _) (by assumption) | exact KI_1 CTt_f CTt_0 (Nat.zero_le _) (by assumption)) (Nat.lt_succ_self _))
  · refine J_istore_n (pc := 12) dX8_evenNow_12 rfl (by decide) rfl ?_
    show J X mX8_evenNow d kc ks 13 [some (.ref 19), some (.int (nI s)), some (.int (nI 0)), some (.int (nI q2))] [] w _
    have lp13_18 : ∀ (fuel : Nat) (w19 : List jC) (rw_13 : Nat → Nat) (z2 : Nat) (c3 : Nat), (RM n mv rw_13 nx b bt kn en dn rf kk th w19) → (FR b b w w19) → (∀ i, rw_13 i < 7) → (c3 ≤ fc n) → (0 < c3 → bitL bt (c3 - 1) = true) → (CTt bt (fun k => sg n (XM n k) = nI 1) z2 (KK (fc n) c3)) → (mu (fc n) c3 < fuel) → J X mX8_evenNow d kc ks 13 [some (.ref 19), some (.int (nI s)), some (.int (nI z2)), some (.int (nI c3 + Int32.ofInt (-1)))] [] w19 (pI (fun v => v = nI (cd n (fun x => (Gg n (gS (mW n mv) s 6)) x ∧ sg n x = nI 1))) (fun w' => ∃ (rw' : Nat → Nat), RM n mv rw' nx b bt kn en dn rf kk th w' ∧ FR b b w w' ∧ (∀ i, rw' i < 7))) := by
      intro fuellp13_18
      induction fuellp13_18 with
      | zero => intros; omega
      | succ fuellp13_18 ihlp13_18 =>
        intro w19 rw_13 z2 c3 hR20 hF21 gr22 hv13_0 hv13_1 hv13_2 hf23
        obtain ⟨h19_24, h20_24, h21_24, h22_24, hb_24, hbl_24, hb3_24⟩ := hR20
        refine J_iload_n (pc := 13) dX8_evenNow_13 rfl rfl ?_
        refine J_if_ltM (pc := 14) (tgt := 58) dX8_evenNow_14 (by decide) (by omega) (fun ht25 => ?_) (fun hf26 => ?_)
        · refine J_iload_n (pc := 58) dX8_evenNow_58 rfl rfl ?_
          exact J_iret (pc := 59) dX8_evenNow_59 rfl ⟨(congrArg nI (by exact CTt_end hBX (fun k hk => Iff.rfl) (by have h := hv13_2; rw [show c3 = 0 by omega, KK_0] at h; exact h))), ⟨rw_13, ⟨h19_24, h20_24, h21_24, h22_24, hb_24, hbl_24, hb3_24⟩, hF21, gr22⟩⟩
        · rw [nI_m1 hf26]
          have hb13 := hv13_1 (by omega)
          have hprev : CTt bt (fun k => sg n (XM n k) = nI 1) z2 (c3 - 1) := by
            have h := hv13_2
            rw [KK_p (by omega)] at h
            exact h
          refine J_aload_n (pc := 17) dX8_evenNow_17 rfl rfl rfl ?_
          refine J_iload_n (pc := 18) dX8_evenNow_18 rfl rfl ?_
          refine J_aload_n (pc := 19) dX8_evenNow_19 rfl rfl rfl ?_
          refine J_get (pc := 20) (k := 2) dX8_evenNow_20 kC9 (by decide) ff_X8_17 h19_24 rfl ?_
          refine J_callV0 (pc := 23) (M := mX8_evenNow) (as := [.int (nI (c3 - 1)), .ref 21]) dX8_evenNow_23 fw_X8_rowOf fl_X8_78 fm_X8_rowOf fe_X8_rowOf h19_24 (by decide) rfl rfl rfl (c_X8_rowOf hs (d := d - 1) (Nat.le_trans (by decide) hdm) (w := w19) (n := n) (mv := mv) (rw := rw_13) (nx := nx) (b := b) (bt := bt) (kn := kn) (en := en) (dn := dn) (rf := rf) (kk := kk) (th := th) ⟨h19_24, h20_24, h21_24, h22_24, hb_24, hbl_24, hb3_24⟩ hn1 hn2 gm gr22 gx (c3 - 1) (by first | assumption | omega) (kc := 0) (ks := 0)) hdp (st := []) (Nat.le_of_ble_eq_true rfl) rfl (kr_V fun w27 hw27 => ?_) kx_V
          obtain ⟨rw27, hR27, hFc27, hgrw27, hp27_0⟩ := hw27
          obtain ⟨h19_27, h20_27, h21_27, h22_27, hbb_27, hbl_27, hb3_27⟩ := hR27
          have hF27 := hF21.tr hFc27
          have hrow := hp27_0
          refine J_iload_n (pc := 26) dX8_evenNow_26 rfl rfl ?_
          refine J_aload_n (pc := 27) dX8_evenNow_27 rfl rfl rfl ?_
          refine J_aload_n (pc := 28) dX8_evenNow_28 rfl rfl rfl ?_
          refine J_get (pc := 29) (k := 2) dX8_evenNow_29 kC9 (by decide) ff_X8_17 h19_27 rfl ?_
          refine J_iconst (pc := 32) (v := nI 0) dX8_evenNow_32 (by decide) ?_
          refine J_callV0 (pc := 33) (M := mX8_evenNow) (as := [.ref 21, .int (nI 0)]) dX8_evenNow_33 fw_X8_signOf fl_X8_115 fm_X8_signOf fe_X8_signOf h19_27 (by decide) rfl rfl rfl (c_X8_signOf_at21x hs (d := d - 1) (Nat.le_trans (by decide) hdm) (w := w27) (n := n) (mv := mv) (rw := rw27) (nx := nx) (b := b) (bt := bt) (kn := kn) (en := en) (dn := dn) (rf := rf) (kk := kk) (th := th) ⟨h19_27, h20_27, h21_27, h22_27, hbb_27, hbl_27, hb3_27⟩ hn1 hn2 gm hgrw27 gx 0 (by first | assumption | omega) (kc := 0) (ks := 0)) hdp (st := [.int (nI z2)]) (Nat.le_of_ble_eq_true rfl) rfl (kr_P fun v28 hv28 => ?_) kx_I
          have hsg := hv28.trans (sg_row (by omega) hn2 hrow).symm
          refine J_iconst (pc := 36) (v := nI 1) dX8_evenNow_36 (by decide) ?_
          refine J_icmp_ne (pc := 37) (tgt := 44) dX8_evenNow_37 (by decide) (fun ht29 => ?_) (fun hf30 => ?_)
          · refine J_iconst (pc := 44) (v := nI 0) dX8_evenNow_44 (by decide) ?_
            refine J_iaddN (pc := 45) dX8_evenNow_45 ?_
            refine J_istore_n (pc := 46) dX8_evenNow_46 rfl (by decide) rfl ?_
            show J X mX8_evenNow d kc ks 47 [some (.ref 19), some (.int (nI s)), some (.int (nI (z2 + 0))), some (.int (nI (c3 - 1)))] [] w27 _
            have hst : CTt bt (fun k => sg n (XM n k) = nI 1) (z2 + 0) (c3 - 1 + 1) := by first | exact CTt_y hprev hb13 (hsg.symm.trans (by assumption)) | exact CTt_n hprev (fun e => absurd (hsg.trans e) (by assumption))
            refine J_aload_n (pc := 47) dX8_evenNow_47 rfl rfl rfl ?_
            refine J_iload_n (pc := 48) dX8_evenNow_48 rfl rfl ?_
            refine J_iconst (pc := 49) (v := nI 1) dX8_evenNow_49 (by decide) ?_
            refine J_iaddN (pc := 50) dX8_evenNow_50 ?_
            refine J_callV0 (pc := 51) (M := mX8_evenNow) (as := [.int (nI ((c3 - 1) + 1))]) dX8_evenNow_51 fw_X8_from fl_X8_137 fm_X8_from fe_X8_from h19_27 (by decide) rfl rfl rfl (c_X8_from hs (d := d - 1) (Nat.le_trans (by decide) hdm) (w := w27) (n := n) (mv := mv) (rw := rw27) (nx := nx) (b := b) (bt := bt) (kn := kn) (en := en) (dn := dn) (rf := rf) (kk := kk) (th := th) ⟨h19_27, h20_27, h21_27, h22_27, hbb_27, hbl_27, hb3_27⟩ hn1 hn2 gm hgrw27 gx ((c3 - 1) + 1) (by first | assumption | omega) (kc := 0) (ks := 0)) hdp (st := []) (Nat.le_of_ble_eq_true rfl) rfl (kr_P fun v31 hv31 => ?_) kx_I
            rcases hv31 with ⟨rfl, hk31_0⟩ | ⟨q31, rfl, hk31_0, hk31_1, hk31_2, hk31_3⟩
            · refine J_istore_n (pc := 54) dX8_evenNow_54 rfl (by decide) rfl ?_
              show J X mX8_evenNow d kc ks 55 [some (.ref 19), some (.int (nI s)), some (.int (nI (z2 + 0))), some (.int (-1))] [] w27 _
              refine J_goto (pc := 55) (tgt := 13) dX8_evenNow_55 (by decide) ?_
              exact J_sub (L' := [some (.ref 19), some (.int (nI s)), some (.int (nI (z2 + 0))), some (.int (nI 0 + Int32.ofInt (-1)))]) ⟨rfl, ⟨rfl, ⟨rfl, ⟨(congrArg (fun z => some (Value.int z)) (by decide : (-1 : Int32) = nI 0 + Int32.ofInt (-1))), trivial⟩⟩⟩⟩ (ihlp13_18 w27 rw27 (z2 + 0) 0 ⟨h19_27, h20_27, h21_27, h22_27, hbb_27, hbl_27, hb3_27⟩ hF27 hgrw27 (by first | assumption | omega) (by intro h; first | (rw [Nat.add_sub_cancel]; assumption) | omega) (by first | exact KI_0 CTt_f hst (by omega) (by assumption) | exact KI_1 CTt_f hst (by omega) (by assumption)) (by exact mu_dec (by assumption) (by omega) (by omega) (by omega)))
            · refine J_istore_n (pc := 54) dX8_evenNow_54 rfl (by decide) rfl ?_
              show J X mX8_evenNow d kc ks 55 [some (.ref 19), some (.int (nI s)), some (.int (nI (z2 + 0))), some (.int (nI q31))] [] w27 _
              refine J_goto (pc := 55) (tgt := 13) dX8_evenNow_55 (by decide) ?_
              exact J_sub (L' := [some (.ref 19), some (.int (nI s)), some (.int (nI (z2 + 0))), some (.int (nI (q31 + 1) + Int32.ofInt (-1)))]) ⟨rfl, ⟨rfl, ⟨rfl, ⟨(congrArg (fun z => some (Value.int z)) (nI_n1 q31)), trivial⟩⟩⟩⟩ (ihlp13_18 w27 rw27 (z2 + 0) (q31 + 1) ⟨h19_27, h20_27, h21_27, h22_27, hbb_27, hbl_27, hb3_27⟩ hF27 hgrw27 (by first | assumption | omega) (by intro h; first | (rw [Nat.add_sub_cancel]; assumption) | omega) (by first | exact KI_0 CTt_f hst (by omega) (by assumption) | exact KI_1 CTt_f hst (by omega) (by assumption)) (by exact mu_dec (by assumption) (by omega) (by omega) (by omega)))
          · refine J_iconst (pc := 40) (v := nI 1) dX8_evenNow_40 (by decide) ?_
            refine J_goto (pc := 41) (tgt := 45) dX8_evenNow_41 (by decide) ?_
            refine J_iaddN (pc := 45) dX8_evenNow_45 ?_
            refine J_istore_n (pc := 46) dX8_evenNow_46 rfl (by decide) rfl ?_
            show J X mX8_evenNow d kc ks 47 [some (.ref 19), some (.int (nI s)), some (.int (nI (z2 + 1))), some (.int (nI (c3 - 1)))] [] w27 _
            have hst : CTt bt (fun k => sg n (XM n k) = nI 1) (z2 + 1) (c3 - 1 + 1) := by first | exact CTt_y hprev hb13 (hsg.symm.trans (by assumption)) | exact CTt_n hprev (fun e => absurd (hsg.trans e) (by assumption))
            refine J_aload_n (pc := 47) dX8_evenNow_47 rfl rfl rfl ?_
            refine J_iload_n (pc := 48) dX8_evenNow_48 rfl rfl ?_
            refine J_iconst (pc := 49) (v := nI 1) dX8_evenNow_49 (by decide) ?_
            refine J_iaddN (pc := 50) dX8_evenNow_50 ?_
            refine J_callV0 (pc := 51) (M := mX8_evenNow) (as := [.int (nI ((c3 - 1) + 1))]) dX8_evenNow_51 fw_X8_from fl_X8_137 fm_X8_from fe_X8_from h19_27 (by decide) rfl rfl rfl (c_X8_from hs (d := d - 1) (Nat.le_trans (by decide) hdm) (w := w27) (n := n) (mv := mv) (rw := rw27) (nx := nx) (b := b) (bt := bt) (kn := kn) (en := en) (dn := dn) (rf := rf) (kk := kk) (th := th) ⟨h19_27, h20_27, h21_27, h22_27, hbb_27, hbl_27, hb3_27⟩ hn1 hn2 gm hgrw27 gx ((c3 - 1) + 1) (by first | assumption | omega) (kc := 0) (ks := 0)) hdp (st := []) (Nat.le_of_ble_eq_true rfl) rfl (kr_P fun v32 hv32 => ?_) kx_I
            rcases hv32 with ⟨rfl, hk32_0⟩ | ⟨q32, rfl, hk32_0, hk32_1, hk32_2, hk32_3⟩
            · refine J_istore_n (pc := 54) dX8_evenNow_54 rfl (by decide) rfl ?_
              show J X mX8_evenNow d kc ks 55 [some (.ref 19), some (.int (nI s)), some (.int (nI (z2 + 1))), some (.int (-1))] [] w27 _
              refine J_goto (pc := 55) (tgt := 13) dX8_evenNow_55 (by decide) ?_
              exact J_sub (L' := [some (.ref 19), some (.int (nI s)), some (.int (nI (z2 + 1))), some (.int (nI 0 + Int32.ofInt (-1)))]) ⟨rfl, ⟨rfl, ⟨rfl, ⟨(congrArg (fun z => some (Value.int z)) (by decide : (-1 : Int32) = nI 0 + Int32.ofInt (-1))), trivial⟩⟩⟩⟩ (ihlp13_18 w27 rw27 (z2 + 1) 0 ⟨h19_27, h20_27, h21_27, h22_27, hbb_27, hbl_27, hb3_27⟩ hF27 hgrw27 (by first | assumption | omega) (by intro h; first | (rw [Nat.add_sub_cancel]; assumption) | omega) (by first | exact KI_0 CTt_f hst (by omega) (by assumption) | exact KI_1 CTt_f hst (by omega) (by assumption)) (by exact mu_dec (by assumption) (by omega) (by omega) (by omega)))
            · refine J_istore_n (pc := 54) dX8_evenNow_54 rfl (by decide) rfl ?_
              show J X mX8_evenNow d kc ks 55 [some (.ref 19), some (.int (nI s)), some (.int (nI (z2 + 1))), some (.int (nI q32))] [] w27 _
              refine J_goto (pc := 55) (tgt := 13) dX8_evenNow_55 (by decide) ?_
              exact J_sub (L' := [some (.ref 19), some (.int (nI s)), some (.int (nI (z2 + 1))), some (.int (nI (q32 + 1) + Int32.ofInt (-1)))]) ⟨rfl, ⟨rfl, ⟨rfl, ⟨(congrArg (fun z => some (Value.int z)) (nI_n1 q32)), trivial⟩⟩⟩⟩ (ihlp13_18 w27 rw27 (z2 + 1) (q32 + 1) ⟨h19_27, h20_27, h21_27, h22_27, hbb_27, hbl_27, hb3_27⟩ hF27 hgrw27 (by first | assumption | omega) (by intro h; first | (rw [Nat.add_sub_cancel]; assumption) | omega) (by first | exact KI_0 CTt_f hst (by omega) (by assumption) | exact KI_1 CTt_f hst (by omega) (by assumption)) (by exact mu_dec (by assumption) (by omega) (by omega) (by omega)))
    exact J_sub (L' := [some (.ref 19), some (.int (nI s)), some (.int (nI 0)), some (.int (nI (q2 + 1) + Int32.ofInt (-1)))]) ⟨rfl, ⟨rfl, ⟨rfl, ⟨(congrArg (fun z => some (Value.int z)) (nI_n1 q2)), trivial⟩⟩⟩⟩ (lp13_18 _ w rw 0 (q2 + 1) ⟨h19, h20, h21, h22, hbb, hbl, hb3⟩ hF gr (by first | assumption | omega) (by intro h; first | (rw [Nat.add_sub_cancel]; assumption) | omega) (by first | exact KI_0 CTt_f CTt_0 (Nat.zero_le _) (by assumption) | exact KI_1 CTt_f CTt_0 (Nat.zero_le _) (by assumption)) (Nat.lt_succ_self _))
set_option maxRecDepth 100000 in
set_option maxHeartbeats 4000000 in
theorem c_X8_isInNow_atkx {X : jX} (hs : X.1.stackTraces = false) {d : Nat} (hd : 4 ≤ d) {n : Nat} {mv rw nx : Nat → Nat} {b : Nat} {bt : List Int32} {kn en dn rf kk th : Int32} {w : List jC} (hR : RM n mv rw nx b bt kn en dn rf kk th w) (hn1 : 2 ≤ n) (hn2 : n ≤ 7) (gm : ∀ i, mv i < 7) (gr : ∀ i, rw i < 7) (gx : ∀ i, nx i < 7) (s : Nat) (a : Nat) (hy0 : s < 64) (hy1 : PM n mv) (hy2 : kn = nI s ∧ BX n mv s bt en) (hy3 : a < 6) {kc ks : Nat} : jMet X mX8_isInNow d kc ks [.ref 19, .int (nI s), .int (nI a)] w (pI (fun v => (v = nI 0 ∧ ¬ (Gg n (gS (mW n mv) s 6)) (mW n mv a)) ∨ (v = nI 1 ∧ (Gg n (gS (mW n mv) s 6)) (mW n mv a))) (fun w' => w' = w)) := by
  refine jMet_of hs (by decide +kernel) (Nat.le_of_ble_eq_true rfl) (L := [some (.ref 19), some (.int (nI s)), some (.int (nI a))]) rfl ?_
  have hdm : 3 ≤ d - 1 := by omega
  have hdp : d - 1 + 1 ≤ d := by omega
  have hfc := fc_7 hn2
  have hfp := fc_pos n
  obtain ⟨h19, h20, h21, h22, hbb, hbl, hb3⟩ := hR
  have hF : FR b b w w := FR.rf
  refine J_aload_n (pc := 0) dX8_isInNow_0 rfl rfl rfl ?_
  refine J_iload_n (pc := 1) dX8_isInNow_1 rfl rfl ?_
  refine J_callV0 (pc := 2) (M := mX8_isInNow) (as := [.int (nI s)]) dX8_isInNow_2 fw_X8_group fl_X8_99 fm_X8_group fe_X8_group h19 (by decide) rfl rfl rfl (c_X8_group_atk hs (d := d - 1) (Nat.le_trans (by decide) hdm) (w := w) (n := n) (mv := mv) (rw := rw) (nx := nx) (b := b) (bt := bt) (kn := kn) (en := en) (dn := dn) (rf := rf) (kk := kk) (th := th) ⟨h19, h20, h21, h22, hbb, hbl, hb3⟩ hn1 hn2 gm gr gx s (by assumption) (by exact hy2.1) (kc := 0) (ks := 0)) hdp (st := []) (Nat.le_of_ble_eq_true rfl) rfl (kr_V fun w1 hw1 => ?_) kx_V
  obtain rfl := hw1.symm
  have hBXE := hy2.2; have hBX := hBXE.1
  refine J_aload_n (pc := 5) dX8_isInNow_5 rfl rfl rfl ?_
  refine J_aload_n (pc := 6) dX8_isInNow_6 rfl rfl rfl ?_
  refine J_aload_n (pc := 7) dX8_isInNow_7 rfl rfl rfl ?_
  refine J_get (pc := 8) (k := 1) dX8_isInNow_8 kC9 (by decide) ff_X8_13 h19 rfl ?_
  refine J_iload_n (pc := 11) dX8_isInNow_11 rfl rfl ?_
  refine J_bipush (pc := 12) (v := nI 7) dX8_isInNow_12 (by decide) ?_
  refine J_imulN (pc := 14) dX8_isInNow_14 ?_
  refine J_callV0 (pc := 15) (M := mX8_isInNow) (as := [.ref 20, .int (nI (a * 7))]) dX8_isInNow_15 fw_X8_numberOf fl_X8_45 fm_X8_numberOf fe_X8_numberOf h19 (by decide) rfl rfl rfl (c_X8_numberOf_at20 hs (d := d - 1) (Nat.le_trans (by decide) hdm) (w := w) (n := n) (mv := mv) (rw := rw) (nx := nx) (b := b) (bt := bt) (kn := kn) (en := en) (dn := dn) (rf := rf) (kk := kk) (th := th) ⟨h19, h20, h21, h22, hbb, hbl, hb3⟩ hn1 hn2 gm gr gx (a * 7) (by first | assumption | omega) (kc := 0) (ks := 0)) hdp (st := [.ref 19]) (Nat.le_of_ble_eq_true rfl) rfl (kr_P fun v2 hv2 => ?_) kx_I
  subst hv2
  have hq3 := nuF_b mv (a * 7) n
  refine J_callV0 (pc := 18) (M := mX8_isInNow) (as := [.int (nI (nuF mv (a * 7) n n))]) dX8_isInNow_18 fw_X8_isBit fl_X8_88 fm_X8_isBit fe_X8_isBit h19 (by decide) rfl rfl rfl (c_X8_isBit hs (d := d - 1) (Nat.le_trans (by decide) hdm) (w := w) (n := n) (mv := mv) (rw := rw) (nx := nx) (b := b) (bt := bt) (kn := kn) (en := en) (dn := dn) (rf := rf) (kk := kk) (th := th) ⟨h19, h20, h21, h22, hbb, hbl, hb3⟩ hn1 hn2 gm gr gx (nuF mv (a * 7) n n) (by first | assumption | omega) (kc := 0) (ks := 0)) hdp (st := []) (Nat.le_of_ble_eq_true rfl) rfl (kr_P fun v4 hv4 => ?_) kx_I
  rcases hv4 with ⟨rfl, hk4_0⟩ | ⟨rfl, hk4_0⟩
  · exact J_zret (pc := 21) dX8_isInNow_21 rfl (nar_b (by first | decide | omega)) ⟨Or.inl ⟨rfl, (by exact fun h => absurd ((in_bit hn1 hn2 hy1 hBX hy3).mpr h) (bf (by assumption)))⟩, rfl⟩
  · exact J_zret (pc := 21) dX8_isInNow_21 rfl (nar_b (by first | decide | omega)) ⟨Or.inr (⟨rfl, (by exact (in_bit hn1 hn2 hy1 hBX hy3).mp (by assumption))⟩), rfl⟩
set_option maxRecDepth 100000 in
set_option maxHeartbeats 4000000 in
theorem c_X8_byThoseThatStay_atkx {X : jX} (hs : X.1.stackTraces = false) {d : Nat} (hd : 4 ≤ d) {n : Nat} {mv rw nx : Nat → Nat} {b : Nat} {bt : List Int32} {kn en dn rf kk th : Int32} {w : List jC} (hR : RM n mv rw nx b bt kn en dn rf kk th w) (hn1 : 2 ≤ n) (hn2 : n ≤ 7) (gm : ∀ i, mv i < 7) (gr : ∀ i, rw i < 7) (gx : ∀ i, nx i < 7) (s : Nat) (c : Nat) (hy0 : s < 64) (hy1 : PM n mv) (hy2 : kn = nI s ∧ BX n mv s bt en) (hy3 : c ≤ 3) {kc ks : Nat} : jMet X mX8_byThoseThatStay d kc ks [.ref 19, .int (nI s), .int (nI c)] w (pI (fun v => v = nI (cQ n (Gg n (gS (mW n mv) s 6)) c)) (fun w' => ∃ (rw' : Nat → Nat), RM n mv rw' nx b bt kn en dn rf kk th w' ∧ FR b b w w' ∧ (∀ i, rw' i < 7))) := by
  refine jMet_of hs (by decide +kernel) (Nat.le_of_ble_eq_true rfl) (L := [some (.ref 19), some (.int (nI s)), some (.int (nI c)), none, none, none, none]) rfl ?_
  have hdm : 3 ≤ d - 1 := by omega
  have hdp : d - 1 + 1 ≤ d := by omega
  have hfc := fc_7 hn2
  have hfp := fc_pos n
  obtain ⟨h19, h20, h21, h22, hbb, hbl, hb3⟩ := hR
  have hF : FR b b w w := FR.rf
  refine J_aload_n (pc := 0) dX8_byThoseThatStay_0 rfl rfl rfl ?_
  refine J_iload_n (pc := 1) dX8_byThoseThatStay_1 rfl rfl ?_
  refine J_callV0 (pc := 2) (M := mX8_byThoseThatStay) (as := [.int (nI s)]) dX8_byThoseThatStay_2 fw_X8_group fl_X8_99 fm_X8_group fe_X8_group h19 (by decide) rfl rfl rfl (c_X8_group_atk hs (d := d - 1) (Nat.le_trans (by decide) hdm) (w := w) (n := n) (mv := mv) (rw := rw) (nx := nx) (b := b) (bt := bt) (kn := kn) (en := en) (dn := dn) (rf := rf) (kk := kk) (th := th) ⟨h19, h20, h21, h22, hbb, hbl, hb3⟩ hn1 hn2 gm gr gx s (by assumption) (by exact hy2.1) (kc := 0) (ks := 0)) hdp (st := []) (Nat.le_of_ble_eq_true rfl) rfl (kr_V fun w1 hw1 => ?_) kx_V
  obtain rfl := hw1.symm
  have hBXE := hy2.2; have hBX := hBXE.1
  have hBT := BY_BT hn1 hn2 hBX
  refine J_iconst (pc := 5) (v := nI 0) dX8_byThoseThatStay_5 (by decide) ?_
  refine J_istore_n (pc := 6) dX8_byThoseThatStay_6 rfl (by decide) rfl ?_
  show J X mX8_byThoseThatStay d kc ks 7 [some (.ref 19), some (.int (nI s)), some (.int (nI c)), some (.int (nI 0)), none, none, none] [] w _
  refine J_aload_n (pc := 7) dX8_byThoseThatStay_7 rfl rfl rfl ?_
  refine J_iconst (pc := 8) (v := nI 0) dX8_byThoseThatStay_8 (by decide) ?_
  refine J_callV0 (pc := 9) (M := mX8_byThoseThatStay) (as := [.int (nI 0)]) dX8_byThoseThatStay_9 fw_X8_from fl_X8_137 fm_X8_from fe_X8_from h19 (by decide) rfl rfl rfl (c_X8_from hs (d := d - 1) (Nat.le_trans (by decide) hdm) (w := w) (n := n) (mv := mv) (rw := rw) (nx := nx) (b := b) (bt := bt) (kn := kn) (en := en) (dn := dn) (rf := rf) (kk := kk) (th := th) ⟨h19, h20, h21, h22, hbb, hbl, hb3⟩ hn1 hn2 gm gr gx 0 (by first | assumption | omega) (kc := 0) (ks := 0)) hdp (st := []) (Nat.le_of_ble_eq_true rfl) rfl (kr_P fun v2 hv2 => ?_) kx_I
  rcases hv2 with ⟨rfl, hk2_0⟩ | ⟨q2, rfl, hk2_0, hk2_1, hk2_2, hk2_3⟩
  · refine J_istore (pc := 12) dX8_byThoseThatStay_12 (by decide) rfl ?_
    show J X mX8_byThoseThatStay d kc ks 14 [some (.ref 19), some (.int (nI s)), some (.int (nI c)), some (.int (nI 0)), some (.int (-1)), none, none] [] w _
    have lp14_3 : ∀ (fuel : Nat) (w4 : List jC) (rw_14 : Nat → Nat) (z3 : Nat) (c4 : Nat), (RM n mv rw_14 nx b bt kn en dn rf kk th w4) → (FR b b w w4) → (∀ i, rw_14 i < 7) → (c4 ≤ fc n) → (0 < c4 → bitL bt (c4 - 1) = true) → (SMt bt (fun k => c ^ hr (XM n k) n) z3 (KK (fc n) c4)) → (mu (fc n) c4 < fuel) → J X mX8_byThoseThatStay d kc ks 14 [some (.ref 19), some (.int (nI s)), some (.int (nI c)), some (.int (nI z3)), some (.int (nI c4 + Int32.ofInt (-1))), none, none] [] w4 (pI (fun v => v = nI (cQ n (Gg n (gS (mW n mv) s 6)) c)) (fun w' => ∃ (rw' : Nat → Nat), RM n mv rw' nx b bt kn en dn rf kk th w' ∧ FR b b w w' ∧ (∀ i, rw' i < 7))) := by
      intro fuellp14_3
      induction fuellp14_3 with
      | zero => intros; omega
      | succ fuellp14_3 ihlp14_3 =>
        intro w4 rw_14 z3 c4 hR5 hF6 gr7 hv14_0 hv14_1 hv14_2 hf8
        obtain ⟨h19_9, h20_9, h21_9, h22_9, hb_9, hbl_9, hb3_9⟩ := hR5
        refine J_iload (pc := 14) dX8_byThoseThatStay_14 rfl ?_
        refine J_if_ltM (pc := 16) (tgt := 78) dX8_byThoseThatStay_16 (by decide) (by omega) (fun ht10 => ?_) (fun hf11 => ?_)
        · have hsm : SMt bt (fun k => c ^ hr (XM n k) n) z3 (fc n) := by
            have h := hv14_2
            rw [show c4 = 0 by omega, KK_0] at h
            exact h
          have hzb := SMt_le (B := 2187) (fun k _ => cp_bd hn2 hy3) hsm
          have hf7 := fc_7 hn2
          refine J_iload_n (pc := 78) dX8_byThoseThatStay_78 rfl rfl ?_
          refine J_aload_n (pc := 79) dX8_byThoseThatStay_79 rfl rfl rfl ?_
          refine J_callV0 (pc := 80) (M := mX8_byThoseThatStay) (as := []) dX8_byThoseThatStay_80 fw_X8_sizeNow fl_X8_102 fm_X8_sizeNow fe_X8_sizeNow h19_9 (by decide) rfl rfl rfl (c_X8_sizeNow hs (d := d - 1) (Nat.le_trans (by decide) hdm) (w := w4) (n := n) (mv := mv) (rw := rw_14) (nx := nx) (b := b) (bt := bt) (kn := kn) (en := en) (dn := dn) (rf := rf) (kk := kk) (th := th) ⟨h19_9, h20_9, h21_9, h22_9, hb_9, hbl_9, hb3_9⟩ hn1 hn2 gm gr7 gx  (kc := 0) (ks := 0)) hdp (st := [.int (nI z3)]) (Nat.le_of_ble_eq_true rfl) rfl (kr_P fun v12 hv12 => ?_) kx_I
          subst hv12
          have hsz := cnt_pos (P := bitL bt) 5056 0 (by decide) hBT.2
          have hsz2 := cnt_le (bitL bt) 5056
          have hm13 := Nat.mod_lt z3 (show 0 < cnt (bitL bt) 5056 by omega)
          have hm14 := Nat.div_le_self z3 (cnt (bitL bt) 5056)
          refine J_idivN (pc := 83) dX8_byThoseThatStay_83 (by omega) (by omega) (by omega) ?_
          exact J_iret (pc := 84) dX8_byThoseThatStay_84 rfl ⟨(congrArg nI (by exact cQ_end hn2 hBX hsm)), ⟨rw_14, ⟨h19_9, h20_9, h21_9, h22_9, hb_9, hbl_9, hb3_9⟩, hF6, gr7⟩⟩
        · rw [nI_m1 hf11]
          have hb14 := hv14_1 (by omega)
          have hprev : SMt bt (fun k => c ^ hr (XM n k) n) z3 (c4 - 1) := by
            have h := hv14_2
            rw [KK_p (by omega)] at h
            exact h
          refine J_aload_n (pc := 19) dX8_byThoseThatStay_19 rfl rfl rfl ?_
          refine J_iload (pc := 20) dX8_byThoseThatStay_20 rfl ?_
          refine J_aload_n (pc := 22) dX8_byThoseThatStay_22 rfl rfl rfl ?_
          refine J_get (pc := 23) (k := 2) dX8_byThoseThatStay_23 kC9 (by decide) ff_X8_17 h19_9 rfl ?_
          refine J_callV0 (pc := 26) (M := mX8_byThoseThatStay) (as := [.int (nI (c4 - 1)), .ref 21]) dX8_byThoseThatStay_26 fw_X8_rowOf fl_X8_78 fm_X8_rowOf fe_X8_rowOf h19_9 (by decide) rfl rfl rfl (c_X8_rowOf hs (d := d - 1) (Nat.le_trans (by decide) hdm) (w := w4) (n := n) (mv := mv) (rw := rw_14) (nx := nx) (b := b) (bt := bt) (kn := kn) (en := en) (dn := dn) (rf := rf) (kk := kk) (th := th) ⟨h19_9, h20_9, h21_9, h22_9, hb_9, hbl_9, hb3_9⟩ hn1 hn2 gm gr7 gx (c4 - 1) (by first | assumption | omega) (kc := 0) (ks := 0)) hdp (st := []) (Nat.le_of_ble_eq_true rfl) rfl (kr_V fun w15 hw15 => ?_) kx_V
          obtain ⟨rw15, hR15, hFc15, hgrw15, hp15_0⟩ := hw15
          obtain ⟨h19_15, h20_15, h21_15, h22_15, hbb_15, hbl_15, hb3_15⟩ := hR15
          have hF15 := hF6.tr hFc15
          have hPr := Pn_row (by omega) hp15_0
          have hrow := hp15_0
          refine J_iconst (pc := 29) (v := nI 1) dX8_byThoseThatStay_29 (by decide) ?_
          refine J_istore (pc := 30) dX8_byThoseThatStay_30 (by decide) rfl ?_
          show J X mX8_byThoseThatStay d kc ks 32 [some (.ref 19), some (.int (nI s)), some (.int (nI c)), some (.int (nI z3)), some (.int (nI (c4 - 1))), some (.int (nI 1)), none] [] w15 _
          refine J_aload_n (pc := 32) dX8_byThoseThatStay_32 rfl rfl rfl ?_
          refine J_aload_n (pc := 33) dX8_byThoseThatStay_33 rfl rfl rfl ?_
          refine J_get (pc := 34) (k := 2) dX8_byThoseThatStay_34 kC9 (by decide) ff_X8_17 h19_15 rfl ?_
          refine J_iconst (pc := 37) (v := nI 0) dX8_byThoseThatStay_37 (by decide) ?_
          refine J_callV0 (pc := 38) (M := mX8_byThoseThatStay) (as := [.ref 21, .int (nI 0)]) dX8_byThoseThatStay_38 fw_X8_ringsOf fl_X8_203 fm_X8_ringsOf fe_X8_ringsOf h19_15 (by decide) rfl rfl rfl (c_X8_ringsOf_at21x hs (d := d - 1) (Nat.le_trans (by decide) hdm) (w := w15) (n := n) (mv := mv) (rw := rw15) (nx := nx) (b := b) (bt := bt) (kn := kn) (en := en) (dn := dn) (rf := rf) (kk := kk) (th := th) ⟨h19_15, h20_15, h21_15, h22_15, hbb_15, hbl_15, hb3_15⟩ hn1 hn2 gm hgrw15 gx 0 (by first | assumption | omega) (by exact Pn_z hPr) (kc := 0) (ks := 0)) hdp (st := []) (Nat.le_of_ble_eq_true rfl) rfl (kr_P fun v16 hv16 => ?_) kx_I
          subst hv16
          have hrr := hr_row (by omega) hn2 hrow
          have hcb := ct_le (Ld (fun p => rw15 (0 + p))) n
          refine J_istore (pc := 41) dX8_byThoseThatStay_41 (by decide) rfl ?_
          show J X mX8_byThoseThatStay d kc ks 43 [some (.ref 19), some (.int (nI s)), some (.int (nI c)), some (.int (nI z3)), some (.int (nI (c4 - 1))), some (.int (nI 1)), some (.int (nI (ct (Ld (fun p => rw15 (0 + p))) n)))] [] w15 _
          have lp43_17 : ∀ (fuel : Nat) (y5 : Nat) (c6 : Nat), (y5 * c ^ c6 = c ^ hr (XM n (c4 - 1)) n) → (c6 ≤ 7) → (c6 < fuel) → J X mX8_byThoseThatStay d kc ks 43 [some (.ref 19), some (.int (nI s)), some (.int (nI c)), some (.int (nI z3)), some (.int (nI (c4 - 1))), some (.int (nI y5)), some (.int (nI c6))] [] w15 (pI (fun v => v = nI (cQ n (Gg n (gS (mW n mv) s 6)) c)) (fun w' => ∃ (rw' : Nat → Nat), RM n mv rw' nx b bt kn en dn rf kk th w' ∧ FR b b w w' ∧ (∀ i, rw' i < 7))) := by
            intro fuellp43_17
            induction fuellp43_17 with
            | zero => intros; omega
            | succ fuellp43_17 ihlp43_17 =>
              intro y5 c6 hv43_0 hv43_1 hf18
              refine J_iload (pc := 43) dX8_byThoseThatStay_43 rfl ?_
              refine J_if_leN (pc := 45) (tgt := 60) dX8_byThoseThatStay_45 (by decide) (by omega) (fun ht19 => ?_) (fun hf20 => ?_)
              · have hy5 : y5 = c ^ hr (XM n (c4 - 1)) n := by
                  have h := hv43_0
                  rw [show c6 = 0 by omega, Nat.pow_zero, Nat.mul_one] at h
                  exact h
                refine J_iload_n (pc := 60) dX8_byThoseThatStay_60 rfl rfl ?_
                refine J_iload (pc := 61) dX8_byThoseThatStay_61 rfl ?_
                refine J_iaddN (pc := 63) dX8_byThoseThatStay_63 ?_
                refine J_istore_n (pc := 64) dX8_byThoseThatStay_64 rfl (by decide) rfl ?_
                show J X mX8_byThoseThatStay d kc ks 65 [some (.ref 19), some (.int (nI s)), some (.int (nI c)), some (.int (nI (z3 + y5))), some (.int (nI (c4 - 1))), some (.int (nI y5)), some (.int (nI c6))] [] w15 _
                have hst : SMt bt (fun k => c ^ hr (XM n k) n) (z3 + y5) (c4 - 1 + 1) := SMt_s hprev hb14 hy5
                refine J_aload_n (pc := 65) dX8_byThoseThatStay_65 rfl rfl rfl ?_
                refine J_iload (pc := 66) dX8_byThoseThatStay_66 rfl ?_
                refine J_iconst (pc := 68) (v := nI 1) dX8_byThoseThatStay_68 (by decide) ?_
                refine J_iaddN (pc := 69) dX8_byThoseThatStay_69 ?_
                refine J_callV0 (pc := 70) (M := mX8_byThoseThatStay) (as := [.int (nI ((c4 - 1) + 1))]) dX8_byThoseThatStay_70 fw_X8_from fl_X8_137 fm_X8_from fe_X8_from h19_15 (by decide) rfl rfl rfl (c_X8_from hs (d := d - 1) (Nat.le_trans (by decide) hdm) (w := w15) (n := n) (mv := mv) (rw := rw15) (nx := nx) (b := b) (bt := bt) (kn := kn) (en := en) (dn := dn) (rf := rf) (kk := kk) (th := th) ⟨h19_15, h20_15, h21_15, h22_15, hbb_15, hbl_15, hb3_15⟩ hn1 hn2 gm hgrw15 gx ((c4 - 1) + 1) (by first | assumption | omega) (kc := 0) (ks := 0)) hdp (st := []) (Nat.le_of_ble_eq_true rfl) rfl (kr_P fun v21 hv21 => ?_) kx_I
                rcases hv21 with ⟨rfl, hk21_0⟩ | ⟨q21, rfl, hk21_0, hk21_1, hk21_2, hk21_3⟩
                · refine J_istore (pc := 73) dX8_byThoseThatStay_73 (by decide) rfl ?_
                  show J X mX8_byThoseThatStay d kc ks 75 [some (.ref 19), some (.int (nI s)), some (.int (nI c)), some (.int (nI (z3 + y5))), some (.int (-1)), some (.int (nI y5)), some (.int (nI c6))] [] w15 _
                  refine J_goto (pc := 75) (tgt := 14) dX8_byThoseThatStay_75 (by decide) ?_
                  exact J_sub (L' := [some (.ref 19), some (.int (nI s)), some (.int (nI c)), some (.int (nI (z3 + y5))), some (.int (nI 0 + Int32.ofInt (-1))), none, none]) ⟨rfl, ⟨rfl, ⟨rfl, ⟨rfl, ⟨(congrArg (fun z => some (Value.int z)) (by decide : (-1 : Int32) = nI 0 + Int32.ofInt (-1))), trivial⟩⟩⟩⟩⟩ (ihlp14_3 w15 rw15 (z3 + y5) 0 ⟨h19_15, h20_15, h21_15, h22_15, hbb_15, hbl_15, hb3_15⟩ hF15 hgrw15 (by first | assumption | omega) (by intro h; first | (rw [Nat.add_sub_cancel]; assumption) | omega) (by first | exact KI_0 SMt_f hst (by omega) (by assumption) | exact KI_1 SMt_f hst (by omega) (by assumption)) (by exact mu_dec (by assumption) (by omega) (by omega) (by omega)))
                · refine J_istore (pc := 73) dX8_byThoseThatStay_73 (by decide) rfl ?_
                  show J X mX8_byThoseThatStay d kc ks 75 [some (.ref 19), some (.int (nI s)), some (.int (nI c)), some (.int (nI (z3 + y5))), some (.int (nI q21)), some (.int (nI y5)), some (.int (nI c6))] [] w15 _
                  refine J_goto (pc := 75) (tgt := 14) dX8_byThoseThatStay_75 (by decide) ?_
                  exact J_sub (L' := [some (.ref 19), some (.int (nI s)), some (.int (nI c)), some (.int (nI (z3 + y5))), some (.int (nI (q21 + 1) + Int32.ofInt (-1))), none, none]) ⟨rfl, ⟨rfl, ⟨rfl, ⟨rfl, ⟨(congrArg (fun z => some (Value.int z)) (nI_n1 q21)), trivial⟩⟩⟩⟩⟩ (ihlp14_3 w15 rw15 (z3 + y5) (q21 + 1) ⟨h19_15, h20_15, h21_15, h22_15, hbb_15, hbl_15, hb3_15⟩ hF15 hgrw15 (by first | assumption | omega) (by intro h; first | (rw [Nat.add_sub_cancel]; assumption) | omega) (by first | exact KI_0 SMt_f hst (by omega) (by assumption) | exact KI_1 SMt_f hst (by omega) (by assumption)) (by exact mu_dec (by assumption) (by omega) (by omega) (by omega)))
              · refine J_iload (pc := 48) dX8_byThoseThatStay_48 rfl ?_
                refine J_iload_n (pc := 50) dX8_byThoseThatStay_50 rfl rfl ?_
                refine J_imulN (pc := 51) dX8_byThoseThatStay_51 ?_
                refine J_istore (pc := 52) dX8_byThoseThatStay_52 (by decide) rfl ?_
                show J X mX8_byThoseThatStay d kc ks 54 [some (.ref 19), some (.int (nI s)), some (.int (nI c)), some (.int (nI z3)), some (.int (nI (c4 - 1))), some (.int (nI (y5 * c))), some (.int (nI c6))] [] w15 _
                refine J_iincM (pc := 54) dX8_byThoseThatStay_54 rfl (by omega) (by decide) rfl ?_
                show J X mX8_byThoseThatStay d kc ks 57 [some (.ref 19), some (.int (nI s)), some (.int (nI c)), some (.int (nI z3)), some (.int (nI (c4 - 1))), some (.int (nI (y5 * c))), some (.int (nI (c6 - 1)))] [] w15 _
                refine J_goto (pc := 57) (tgt := 43) dX8_byThoseThatStay_57 (by decide) ?_
                exact J_sub (L' := [some (.ref 19), some (.int (nI s)), some (.int (nI c)), some (.int (nI z3)), some (.int (nI (c4 - 1))), some (.int (nI (y5 * c))), some (.int (nI (c6 - 1)))]) ⟨rfl, ⟨rfl, ⟨rfl, ⟨rfl, ⟨rfl, ⟨rfl, ⟨rfl, trivial⟩⟩⟩⟩⟩⟩⟩ (ihlp43_17 (y5 * c) (c6 - 1) (by rw [← hv43_0]; exact pow_dn (by omega)) (by omega) (by omega))
          exact J_sub (L' := [some (.ref 19), some (.int (nI s)), some (.int (nI c)), some (.int (nI z3)), some (.int (nI (c4 - 1))), some (.int (nI 1)), some (.int (nI (ct (Ld (fun p => rw15 (0 + p))) n)))]) ⟨rfl, ⟨rfl, ⟨rfl, ⟨rfl, ⟨rfl, ⟨rfl, ⟨rfl, trivial⟩⟩⟩⟩⟩⟩⟩ (lp43_17 _ 1 (ct (Ld (fun p => rw15 (0 + p))) n) (by rw [Nat.one_mul, hrr]) (by omega) (Nat.lt_succ_self _))
    exact J_sub (L' := [some (.ref 19), some (.int (nI s)), some (.int (nI c)), some (.int (nI 0)), some (.int (nI 0 + Int32.ofInt (-1))), none, none]) ⟨rfl, ⟨rfl, ⟨rfl, ⟨rfl, ⟨(congrArg (fun z => some (Value.int z)) (by decide : (-1 : Int32) = nI 0 + Int32.ofInt (-1))), trivial⟩⟩⟩⟩⟩ (lp14_3 _ w rw 0 0 ⟨h19, h20, h21, h22, hbb, hbl, hb3⟩ hF gr (by first | assumption | omega) (by intro h; first | (rw [Nat.add_sub_cancel]; assumption) | omega) (by first | exact KI_0 SMt_f SMt_0 (Nat.zero_le _) (by assumption) | exact KI_1 SMt_f SMt_0 (Nat.zero_le _) (by assumption)) (Nat.lt_succ_self _))
  · refine J_istore (pc := 12) dX8_byThoseThatStay_12 (by decide) rfl ?_
    show J X mX8_byThoseThatStay d kc ks 14 [some (.ref 19), some (.int (nI s)), some (.int (nI c)), some (.int (nI 0)), some (.int (nI q2)), none, none] [] w _
    have lp14_22 : ∀ (fuel : Nat) (w23 : List jC) (rw_14 : Nat → Nat) (z3 : Nat) (c4 : Nat), (RM n mv rw_14 nx b bt kn en dn rf kk th w23) → (FR b b w w23) → (∀ i, rw_14 i < 7) → (c4 ≤ fc n) → (0 < c4 → bitL bt (c4 - 1) = true) → (SMt bt (fun k => c ^ hr (XM n k) n) z3 (KK (fc n) c4)) → (mu (fc n) c4 < fuel) → J X mX8_byThoseThatStay d kc ks 14 [some (.ref 19), some (.int (nI s)), some (.int (nI c)), some (.int (nI z3)), some (.int (nI c4 + Int32.ofInt (-1))), none, none] [] w23 (pI (fun v => v = nI (cQ n (Gg n (gS (mW n mv) s 6)) c)) (fun w' => ∃ (rw' : Nat → Nat), RM n mv rw' nx b bt kn en dn rf kk th w' ∧ FR b b w w' ∧ (∀ i, rw' i < 7))) := by
      intro fuellp14_22
      induction fuellp14_22 with
      | zero => intros; omega
      | succ fuellp14_22 ihlp14_22 =>
        intro w23 rw_14 z3 c4 hR24 hF25 gr26 hv14_0 hv14_1 hv14_2 hf27
        obtain ⟨h19_28, h20_28, h21_28, h22_28, hb_28, hbl_28, hb3_28⟩ := hR24
        refine J_iload (pc := 14) dX8_byThoseThatStay_14 rfl ?_
        refine J_if_ltM (pc := 16) (tgt := 78) dX8_byThoseThatStay_16 (by decide) (by omega) (fun ht29 => ?_) (fun hf30 => ?_)
        · have hsm : SMt bt (fun k => c ^ hr (XM n k) n) z3 (fc n) := by
            have h := hv14_2
            rw [show c4 = 0 by omega, KK_0] at h
            exact h
          have hzb := SMt_le (B := 2187) (fun k _ => cp_bd hn2 hy3) hsm
          have hf7 := fc_7 hn2
          refine J_iload_n (pc := 78) dX8_byThoseThatStay_78 rfl rfl ?_
          refine J_aload_n (pc := 79) dX8_byThoseThatStay_79 rfl rfl rfl ?_
          refine J_callV0 (pc := 80) (M := mX8_byThoseThatStay) (as := []) dX8_byThoseThatStay_80 fw_X8_sizeNow fl_X8_102 fm_X8_sizeNow fe_X8_sizeNow h19_28 (by decide) rfl rfl rfl (c_X8_sizeNow hs (d := d - 1) (Nat.le_trans (by decide) hdm) (w := w23) (n := n) (mv := mv) (rw := rw_14) (nx := nx) (b := b) (bt := bt) (kn := kn) (en := en) (dn := dn) (rf := rf) (kk := kk) (th := th) ⟨h19_28, h20_28, h21_28, h22_28, hb_28, hbl_28, hb3_28⟩ hn1 hn2 gm gr26 gx  (kc := 0) (ks := 0)) hdp (st := [.int (nI z3)]) (Nat.le_of_ble_eq_true rfl) rfl (kr_P fun v31 hv31 => ?_) kx_I
          subst hv31
          have hsz := cnt_pos (P := bitL bt) 5056 0 (by decide) hBT.2
          have hsz2 := cnt_le (bitL bt) 5056
          have hm32 := Nat.mod_lt z3 (show 0 < cnt (bitL bt) 5056 by omega)
          have hm33 := Nat.div_le_self z3 (cnt (bitL bt) 5056)
          refine J_idivN (pc := 83) dX8_byThoseThatStay_83 (by omega) (by omega) (by omega) ?_
          exact J_iret (pc := 84) dX8_byThoseThatStay_84 rfl ⟨(congrArg nI (by exact cQ_end hn2 hBX hsm)), ⟨rw_14, ⟨h19_28, h20_28, h21_28, h22_28, hb_28, hbl_28, hb3_28⟩, hF25, gr26⟩⟩
        · rw [nI_m1 hf30]
          have hb14 := hv14_1 (by omega)
          have hprev : SMt bt (fun k => c ^ hr (XM n k) n) z3 (c4 - 1) := by
            have h := hv14_2
            rw [KK_p (by omega)] at h
            exact h
          refine J_aload_n (pc := 19) dX8_byThoseThatStay_19 rfl rfl rfl ?_
          refine J_iload (pc := 20) dX8_byThoseThatStay_20 rfl ?_
          refine J_aload_n (pc := 22) dX8_byThoseThatStay_22 rfl rfl rfl ?_
          refine J_get (pc := 23) (k := 2) dX8_byThoseThatStay_23 kC9 (by decide) ff_X8_17 h19_28 rfl ?_
          refine J_callV0 (pc := 26) (M := mX8_byThoseThatStay) (as := [.int (nI (c4 - 1)), .ref 21]) dX8_byThoseThatStay_26 fw_X8_rowOf fl_X8_78 fm_X8_rowOf fe_X8_rowOf h19_28 (by decide) rfl rfl rfl (c_X8_rowOf hs (d := d - 1) (Nat.le_trans (by decide) hdm) (w := w23) (n := n) (mv := mv) (rw := rw_14) (nx := nx) (b := b) (bt := bt) (kn := kn) (en := en) (dn := dn) (rf := rf) (kk := kk) (th := th) ⟨h19_28, h20_28, h21_28, h22_28, hb_28, hbl_28, hb3_28⟩ hn1 hn2 gm gr26 gx (c4 - 1) (by first | assumption | omega) (kc := 0) (ks := 0)) hdp (st := []) (Nat.le_of_ble_eq_true rfl) rfl (kr_V fun w34 hw34 => ?_) kx_V
          obtain ⟨rw34, hR34, hFc34, hgrw34, hp34_0⟩ := hw34
          obtain ⟨h19_34, h20_34, h21_34, h22_34, hbb_34, hbl_34, hb3_34⟩ := hR34
          have hF34 := hF25.tr hFc34
          have hPr := Pn_row (by omega) hp34_0
          have hrow := hp34_0
          refine J_iconst (pc := 29) (v := nI 1) dX8_byThoseThatStay_29 (by decide) ?_
          refine J_istore (pc := 30) dX8_byThoseThatStay_30 (by decide) rfl ?_
          show J X mX8_byThoseThatStay d kc ks 32 [some (.ref 19), some (.int (nI s)), some (.int (nI c)), some (.int (nI z3)), some (.int (nI (c4 - 1))), some (.int (nI 1)), none] [] w34 _
          refine J_aload_n (pc := 32) dX8_byThoseThatStay_32 rfl rfl rfl ?_
          refine J_aload_n (pc := 33) dX8_byThoseThatStay_33 rfl rfl rfl ?_
          refine J_get (pc := 34) (k := 2) dX8_byThoseThatStay_34 kC9 (by decide) ff_X8_17 h19_34 rfl ?_
          refine J_iconst (pc := 37) (v := nI 0) dX8_byThoseThatStay_37 (by decide) ?_
          refine J_callV0 (pc := 38) (M := mX8_byThoseThatStay) (as := [.ref 21, .int (nI 0)]) dX8_byThoseThatStay_38 fw_X8_ringsOf fl_X8_203 fm_X8_ringsOf fe_X8_ringsOf h19_34 (by decide) rfl rfl rfl (c_X8_ringsOf_at21x hs (d := d - 1) (Nat.le_trans (by decide) hdm) (w := w34) (n := n) (mv := mv) (rw := rw34) (nx := nx) (b := b) (bt := bt) (kn := kn) (en := en) (dn := dn) (rf := rf) (kk := kk) (th := th) ⟨h19_34, h20_34, h21_34, h22_34, hbb_34, hbl_34, hb3_34⟩ hn1 hn2 gm hgrw34 gx 0 (by first | assumption | omega) (by exact Pn_z hPr) (kc := 0) (ks := 0)) hdp (st := []) (Nat.le_of_ble_eq_true rfl) rfl (kr_P fun v35 hv35 => ?_) kx_I
          subst hv35
          have hrr := hr_row (by omega) hn2 hrow
          have hcb := ct_le (Ld (fun p => rw34 (0 + p))) n
          refine J_istore (pc := 41) dX8_byThoseThatStay_41 (by decide) rfl ?_
          show J X mX8_byThoseThatStay d kc ks 43 [some (.ref 19), some (.int (nI s)), some (.int (nI c)), some (.int (nI z3)), some (.int (nI (c4 - 1))), some (.int (nI 1)), some (.int (nI (ct (Ld (fun p => rw34 (0 + p))) n)))] [] w34 _
          have lp43_36 : ∀ (fuel : Nat) (y5 : Nat) (c6 : Nat), (y5 * c ^ c6 = c ^ hr (XM n (c4 - 1)) n) → (c6 ≤ 7) → (c6 < fuel) → J X mX8_byThoseThatStay d kc ks 43 [some (.ref 19), some (.int (nI s)), some (.int (nI c)), some (.int (nI z3)), some (.int (nI (c4 - 1))), some (.int (nI y5)), some (.int (nI c6))] [] w34 (pI (fun v => v = nI (cQ n (Gg n (gS (mW n mv) s 6)) c)) (fun w' => ∃ (rw' : Nat → Nat), RM n mv rw' nx b bt kn en dn rf kk th w' ∧ FR b b w w' ∧ (∀ i, rw' i < 7))) := by
            intro fuellp43_36
            induction fuellp43_36 with
            | zero => intros; omega
            | succ fuellp43_36 ihlp43_36 =>
              intro y5 c6 hv43_0 hv43_1 hf37
              refine J_iload (pc := 43) dX8_byThoseThatStay_43 rfl ?_
              refine J_if_leN (pc := 45) (tgt := 60) dX8_byThoseThatStay_45 (by decide) (by omega) (fun ht38 => ?_) (fun hf39 => ?_)
              · have hy5 : y5 = c ^ hr (XM n (c4 - 1)) n := by
                  have h := hv43_0
                  rw [show c6 = 0 by omega, Nat.pow_zero, Nat.mul_one] at h
                  exact h
                refine J_iload_n (pc := 60) dX8_byThoseThatStay_60 rfl rfl ?_
                refine J_iload (pc := 61) dX8_byThoseThatStay_61 rfl ?_
                refine J_iaddN (pc := 63) dX8_byThoseThatStay_63 ?_
                refine J_istore_n (pc := 64) dX8_byThoseThatStay_64 rfl (by decide) rfl ?_
                show J X mX8_byThoseThatStay d kc ks 65 [some (.ref 19), some (.int (nI s)), some (.int (nI c)), some (.int (nI (z3 + y5))), some (.int (nI (c4 - 1))), some (.int (nI y5)), some (.int (nI c6))] [] w34 _
                have hst : SMt bt (fun k => c ^ hr (XM n k) n) (z3 + y5) (c4 - 1 + 1) := SMt_s hprev hb14 hy5
                refine J_aload_n (pc := 65) dX8_byThoseThatStay_65 rfl rfl rfl ?_
                refine J_iload (pc := 66) dX8_byThoseThatStay_66 rfl ?_
                refine J_iconst (pc := 68) (v := nI 1) dX8_byThoseThatStay_68 (by decide) ?_
                refine J_iaddN (pc := 69) dX8_byThoseThatStay_69 ?_
                refine J_callV0 (pc := 70) (M := mX8_byThoseThatStay) (as := [.int (nI ((c4 - 1) + 1))]) dX8_byThoseThatStay_70 fw_X8_from fl_X8_137 fm_X8_from fe_X8_from h19_34 (by decide) rfl rfl rfl (c_X8_from hs (d := d - 1) (Nat.le_trans (by decide) hdm) (w := w34) (n := n) (mv := mv) (rw := rw34) (nx := nx) (b := b) (bt := bt) (kn := kn) (en := en) (dn := dn) (rf := rf) (kk := kk) (th := th) ⟨h19_34, h20_34, h21_34, h22_34, hbb_34, hbl_34, hb3_34⟩ hn1 hn2 gm hgrw34 gx ((c4 - 1) + 1) (by first | assumption | omega) (kc := 0) (ks := 0)) hdp (st := []) (Nat.le_of_ble_eq_true rfl) rfl (kr_P fun v40 hv40 => ?_) kx_I
                rcases hv40 with ⟨rfl, hk40_0⟩ | ⟨q40, rfl, hk40_0, hk40_1, hk40_2, hk40_3⟩
                · refine J_istore (pc := 73) dX8_byThoseThatStay_73 (by decide) rfl ?_
                  show J X mX8_byThoseThatStay d kc ks 75 [some (.ref 19), some (.int (nI s)), some (.int (nI c)), some (.int (nI (z3 + y5))), some (.int (-1)), some (.int (nI y5)), some (.int (nI c6))] [] w34 _
                  refine J_goto (pc := 75) (tgt := 14) dX8_byThoseThatStay_75 (by decide) ?_
                  exact J_sub (L' := [some (.ref 19), some (.int (nI s)), some (.int (nI c)), some (.int (nI (z3 + y5))), some (.int (nI 0 + Int32.ofInt (-1))), none, none]) ⟨rfl, ⟨rfl, ⟨rfl, ⟨rfl, ⟨(congrArg (fun z => some (Value.int z)) (by decide : (-1 : Int32) = nI 0 + Int32.ofInt (-1))), trivial⟩⟩⟩⟩⟩ (ihlp14_22 w34 rw34 (z3 + y5) 0 ⟨h19_34, h20_34, h21_34, h22_34, hbb_34, hbl_34, hb3_34⟩ hF34 hgrw34 (by first | assumption | omega) (by intro h; first | (rw [Nat.add_sub_cancel]; assumption) | omega) (by first | exact KI_0 SMt_f hst (by omega) (by assumption) | exact KI_1 SMt_f hst (by omega) (by assumption)) (by exact mu_dec (by assumption) (by omega) (by omega) (by omega)))
                · refine J_istore (pc := 73) dX8_byThoseThatStay_73 (by decide) rfl ?_
                  show J X mX8_byThoseThatStay d kc ks 75 [some (.ref 19), some (.int (nI s)), some (.int (nI c)), some (.int (nI (z3 + y5))), some (.int (nI q40)), some (.int (nI y5)), some (.int (nI c6))] [] w34 _
                  refine J_goto (pc := 75) (tgt := 14) dX8_byThoseThatStay_75 (by decide) ?_
                  exact J_sub (L' := [some (.ref 19), some (.int (nI s)), some (.int (nI c)), some (.int (nI (z3 + y5))), some (.int (nI (q40 + 1) + Int32.ofInt (-1))), none, none]) ⟨rfl, ⟨rfl, ⟨rfl, ⟨rfl, ⟨(congrArg (fun z => some (Value.int z)) (nI_n1 q40)), trivial⟩⟩⟩⟩⟩ (ihlp14_22 w34 rw34 (z3 + y5) (q40 + 1) ⟨h19_34, h20_34, h21_34, h22_34, hbb_34, hbl_34, hb3_34⟩ hF34 hgrw34 (by first | assumption | omega) (by intro h; first | (rw [Nat.add_sub_cancel]; assumption) | omega) (by first | exact KI_0 SMt_f hst (by omega) (by assumption) | exact KI_1 SMt_f hst (by omega) (by assumption)) (by exact mu_dec (by assumption) (by omega) (by omega) (by omega)))
              · refine J_iload (pc := 48) dX8_byThoseThatStay_48 rfl ?_
                refine J_iload_n (pc := 50) dX8_byThoseThatStay_50 rfl rfl ?_
                refine J_imulN (pc := 51) dX8_byThoseThatStay_51 ?_
                refine J_istore (pc := 52) dX8_byThoseThatStay_52 (by decide) rfl ?_
                show J X mX8_byThoseThatStay d kc ks 54 [some (.ref 19), some (.int (nI s)), some (.int (nI c)), some (.int (nI z3)), some (.int (nI (c4 - 1))), some (.int (nI (y5 * c))), some (.int (nI c6))] [] w34 _
                refine J_iincM (pc := 54) dX8_byThoseThatStay_54 rfl (by omega) (by decide) rfl ?_
                show J X mX8_byThoseThatStay d kc ks 57 [some (.ref 19), some (.int (nI s)), some (.int (nI c)), some (.int (nI z3)), some (.int (nI (c4 - 1))), some (.int (nI (y5 * c))), some (.int (nI (c6 - 1)))] [] w34 _
                refine J_goto (pc := 57) (tgt := 43) dX8_byThoseThatStay_57 (by decide) ?_
                exact J_sub (L' := [some (.ref 19), some (.int (nI s)), some (.int (nI c)), some (.int (nI z3)), some (.int (nI (c4 - 1))), some (.int (nI (y5 * c))), some (.int (nI (c6 - 1)))]) ⟨rfl, ⟨rfl, ⟨rfl, ⟨rfl, ⟨rfl, ⟨rfl, ⟨rfl, trivial⟩⟩⟩⟩⟩⟩⟩ (ihlp43_36 (y5 * c) (c6 - 1) (by rw [← hv43_0]; exact pow_dn (by omega)) (by omega) (by omega))
          exact J_sub (L' := [some (.ref 19), some (.int (nI s)), some (.int (nI c)), some (.int (nI z3)), some (.int (nI (c4 - 1))), some (.int (nI 1)), some (.int (nI (ct (Ld (fun p => rw34 (0 + p))) n)))]) ⟨rfl, ⟨rfl, ⟨rfl, ⟨rfl, ⟨rfl, ⟨rfl, ⟨rfl, trivial⟩⟩⟩⟩⟩⟩⟩ (lp43_36 _ 1 (ct (Ld (fun p => rw34 (0 + p))) n) (by rw [Nat.one_mul, hrr]) (by omega) (Nat.lt_succ_self _))
    exact J_sub (L' := [some (.ref 19), some (.int (nI s)), some (.int (nI c)), some (.int (nI 0)), some (.int (nI (q2 + 1) + Int32.ofInt (-1))), none, none]) ⟨rfl, ⟨rfl, ⟨rfl, ⟨rfl, ⟨(congrArg (fun z => some (Value.int z)) (nI_n1 q2)), trivial⟩⟩⟩⟩⟩ (lp14_22 _ w rw 0 (q2 + 1) ⟨h19, h20, h21, h22, hbb, hbl, hb3⟩ hF gr (by first | assumption | omega) (by intro h; first | (rw [Nat.add_sub_cancel]; assumption) | omega) (by first | exact KI_0 SMt_f SMt_0 (Nat.zero_le _) (by assumption) | exact KI_1 SMt_f SMt_0 (Nat.zero_le _) (by assumption)) (Nat.lt_succ_self _))
set_option maxRecDepth 100000 in
set_option maxHeartbeats 40000000 in
theorem c_X8_isSoundNow_atx {X : jX} (hs : X.1.stackTraces = false) {d : Nat} (hd : 10 ≤ d) {n : Nat} {mv rw nx : Nat → Nat} {b : Nat} {bt : List Int32} {kn en dn rf kk th : Int32} {w : List jC} (hR : RM n mv rw nx b bt kn en dn rf kk th w) (hn1 : 2 ≤ n) (hn2 : n ≤ 7) (gm : ∀ i, mv i < 7) (gr : ∀ i, rw i < 7) (gx : ∀ i, nx i < 7) (hy0 : PM n mv) (hy1 : KX n mv kn bt en) {kc ks : Nat} (hkc : 15 ≤ kc) (hks : 6428 ≤ ks) : jMet X mX8_isSoundNow d kc ks [.ref 19] w (pI (fun v => v = nI 1) (fun w' => ∃ (rw' : Nat → Nat), ∃ (nx' : Nat → Nat), ∃ (b' : Nat), ∃ (bt' : List Int32), ∃ (kn' : Int32), ∃ (en' : Int32), RM n mv rw' nx' b' bt' kn' en' dn rf kk th w' ∧ FR b b' w w' ∧ (∀ i, rw' i < 7) ∧ (∀ i, nx' i < 7) ∧ KX n mv kn' bt' en')) := by
  refine jMet_of hs (by decide +kernel) (Nat.le_of_ble_eq_true rfl) (L := [some (.ref 19), none, none, none, none, none]) rfl ?_
  have hdm : 9 ≤ d - 1 := by omega
  have hdp : d - 1 + 1 ≤ d := by omega
  have hfc := fc_7 hn2
  have hfp := fc_pos n
  obtain ⟨h19, h20, h21, h22, hbb, hbl, hb3⟩ := hR
  have hF : FR b b w w := FR.rf
  refine J_aload_n (pc := 0) dX8_isSoundNow_0 rfl rfl rfl ?_
  refine J_bipush (pc := 1) (v := nI 63) dX8_isSoundNow_1 (by decide) ?_
  refine J_callV (pc := 3) (M := mX8_isSoundNow) (as := [.int (nI 63)]) dX8_isSoundNow_3 fw_X8_sizeOf fl_X8_178 fm_X8_sizeOf fe_X8_sizeOf h19 (by decide) rfl rfl rfl (c_X8_sizeOf_atx hs (d := d - 1) (Nat.le_trans (by decide) hdm) (w := w) (n := n) (mv := mv) (rw := rw) (nx := nx) (b := b) (bt := bt) (kn := kn) (en := en) (dn := dn) (rf := rf) (kk := kk) (th := th) ⟨h19, h20, h21, h22, hbb, hbl, hb3⟩ hn1 hn2 gm gr gx 63 (by first | assumption | omega) (by first | assumption | omega) (by first | assumption | omega) (kc := 13) (ks := 2054) (Nat.le_refl _) (Nat.le_refl _)) hdp (by omega) (by omega) (st := []) (Nat.le_of_ble_eq_true rfl) rfl (kr_I fun v1 w1 hv1 hw1 => ?_) kx_I
  obtain ⟨rw1, nx1, b1, bt1, kn1, en1, hR1, hFc1, hgrw1, hgnx1, hp1_0, hp1_1⟩ := hw1
  obtain ⟨h19_1, h20_1, h21_1, h22_1, hbb_1, hbl_1, hb3_1⟩ := hR1
  have qd1 := hFc1.2.1
  have hF1 := hF.tr hFc1
  subst hv1
  have hkn := hp1_0
  have hBXE := hp1_1; have hBX := hBXE.1
  have hen := BX_en hBXE
  have hCl := Gg_Cl hn2 (gS_M (s := 63) (Nat.le_refl 6) (fun c hc => mW_Mv hn2 hy0 hc))
  have hN5 := cd_5040 hn2 (Gg n (gS (mW n mv) 63 6))
  have hN1 : 1 ≤ cd n (Gg n (gS (mW n mv) 63 6)) := cd_pos (by omega) hn2 (eM_Mv hn2) Gg_e
  have hf7 := fc_7 hn2
  have hf1 := fc_pos n
  have hrd : Pn n (fun j => mv (0 * 7 + j)) := (hy0 0 (by decide))
  refine J_istore_n (pc := 6) dX8_isSoundNow_6 rfl (by decide) rfl ?_
  show J X mX8_isSoundNow d (kc - 13) (ks - 2054) 7 [some (.ref 19), some (.int (nI (cd n (Gg n (gS (mW n mv) 63 6))))), none, none, none, none] [] w1 _
  refine J_iconst (pc := 7) (v := nI 1) dX8_isSoundNow_7 (by decide) ?_
  refine J_istore_n (pc := 8) dX8_isSoundNow_8 rfl (by decide) rfl ?_
  show J X mX8_isSoundNow d (kc - 13) (ks - 2054) 9 [some (.ref 19), some (.int (nI (cd n (Gg n (gS (mW n mv) 63 6))))), some (.int (nI 1)), none, none, none] [] w1 _
  refine J_iconst (pc := 9) (v := nI 0) dX8_isSoundNow_9 (by decide) ?_
  refine J_istore_n (pc := 10) dX8_isSoundNow_10 rfl (by decide) rfl ?_
  show J X mX8_isSoundNow d (kc - 13) (ks - 2054) 11 [some (.ref 19), some (.int (nI (cd n (Gg n (gS (mW n mv) 63 6))))), some (.int (nI 1)), some (.int (nI 0)), none, none] [] w1 _
  have lp11_2 : ∀ (fuel : Nat) (w3 : List jC) (rw_11 : Nat → Nat) (y2 : Nat) (c3 : Nat), (RM n mv rw_11 nx1 b1 bt1 kn1 en1 dn rf kk th w3) → (FR b b1 w w3) → (∀ i, rw_11 i < 7) → (y2 = pR n (Gg n (gS (mW n mv) 63 6)) (fun j => mv (0 * 7 + j)) c3) → (c3 ≤ n) → (n - c3 < fuel) → J X mX8_isSoundNow d (kc - 13) (ks - 2054) 11 [some (.ref 19), some (.int (nI (cd n (Gg n (gS (mW n mv) 63 6))))), some (.int (nI y2)), some (.int (nI c3)), none, none] [] w3 (pI (fun v => v = nI 1) (fun w' => ∃ (rw' : Nat → Nat), ∃ (nx' : Nat → Nat), ∃ (b' : Nat), ∃ (bt' : List Int32), ∃ (kn' : Int32), ∃ (en' : Int32), RM n mv rw' nx' b' bt' kn' en' dn rf kk th w' ∧ FR b b' w w' ∧ (∀ i, rw' i < 7) ∧ (∀ i, nx' i < 7) ∧ KX n mv kn' bt' en')) := by
    intro fuellp11_2
    induction fuellp11_2 with
    | zero => intros; omega
    | succ fuellp11_2 ihlp11_2 =>
      intro w3 rw_11 y2 c3 hR4 hF5 gr6 hv11_0 hv11_1 hf7
      obtain ⟨h19_8, h20_8, h21_8, h22_8, hb_8, hbl_8, hb3_8⟩ := hR4
      refine J_iload_n (pc := 11) dX8_isSoundNow_11 rfl rfl ?_
      refine J_aload_n (pc := 12) dX8_isSoundNow_12 rfl rfl rfl ?_
      refine J_get (pc := 13) (k := 0) dX8_isSoundNow_13 kC9 (by decide) ff_X8_7 h19_8 rfl ?_
      refine J_icmp_geN (pc := 16) (tgt := 39) dX8_isSoundNow_16 (by decide) (by omega) (by omega) (fun ht9 => ?_) (fun hf10 => ?_)
      · have hpr : y2 = cd n (Gg n (gS (mW n mv) 63 6)) := by rw [hv11_0, show c3 = n by omega]; exact pR_n (by omega) hn2 hCl hrd
        refine J_aload_n (pc := 39) dX8_isSoundNow_39 rfl rfl rfl ?_
        refine J_bipush (pc := 40) (v := nI 63) dX8_isSoundNow_40 (by decide) ?_
        refine J_callV0 (pc := 42) (M := mX8_isSoundNow) (as := [.int (nI 63)]) dX8_isSoundNow_42 fw_X8_evenNow fl_X8_194 fm_X8_evenNow fe_X8_evenNow h19_8 (by decide) rfl rfl rfl (c_X8_evenNow_atkx hs (d := d - 1) (Nat.le_trans (by decide) hdm) (w := w3) (n := n) (mv := mv) (rw := rw_11) (nx := nx1) (b := b1) (bt := bt1) (kn := kn1) (en := en1) (dn := dn) (rf := rf) (kk := kk) (th := th) ⟨h19_8, h20_8, h21_8, h22_8, hb_8, hbl_8, hb3_8⟩ hn1 hn2 gm gr6 hgnx1 63 (by first | assumption | omega) (by first | assumption | omega) (by exact ⟨hkn, hBXE⟩) (kc := 0) (ks := 0)) hdp (st := []) (Nat.le_of_ble_eq_true rfl) rfl (kr_I fun v11 w11 hv11 hw11 => ?_) kx_I
        obtain ⟨rw11, hR11, hFc11, hgrw11⟩ := hw11
        obtain ⟨h19_11, h20_11, h21_11, h22_11, hbb_11, hbl_11, hb3_11⟩ := hR11
        have hF11 := hF5.tr hFc11
        subst hv11
        have hev := even_d (by omega) hn2 hCl
        have hev2 := cd_5040 hn2 (fun x => (Gg n (gS (mW n mv) 63 6)) x ∧ sg n x = nI 1)
        refine J_istore_n (pc := 45) dX8_isSoundNow_45 rfl (by decide) rfl ?_
        show J X mX8_isSoundNow d (kc - 13) (ks - 2054) 46 [some (.ref 19), some (.int (nI (cd n (Gg n (gS (mW n mv) 63 6))))), some (.int (nI y2)), some (.int (nI (cd n (fun x => (Gg n (gS (mW n mv) 63 6)) x ∧ sg n x = nI 1)))), none, none] [] w11 _
        refine J_aload_n (pc := 46) dX8_isSoundNow_46 rfl rfl rfl ?_
        refine J_callV0 (pc := 47) (M := mX8_isSoundNow) (as := []) dX8_isSoundNow_47 fw_X8_all fl_X8_65 fm_X8_all fe_X8_all h19_11 (by decide) rfl rfl rfl (c_X8_all hs (d := d - 1) (Nat.le_trans (by decide) hdm) (w := w11) (n := n) (mv := mv) (rw := rw11) (nx := nx1) (b := b1) (bt := bt1) (kn := kn1) (en := en1) (dn := dn) (rf := rf) (kk := kk) (th := th) ⟨h19_11, h20_11, h21_11, h22_11, hbb_11, hbl_11, hb3_11⟩ hn1 hn2 gm hgrw11 hgnx1  (kc := 0) (ks := 0)) hdp (st := []) (Nat.le_of_ble_eq_true rfl) rfl (kr_P fun v12 hv12 => ?_) kx_I
        subst hv12
        refine J_iload_n (pc := 50) dX8_isSoundNow_50 rfl rfl ?_
        have hm13 := Nat.mod_lt (fc n) (show 0 < cd n (Gg n (gS (mW n mv) 63 6)) by omega)
        have hm14 := Nat.div_le_self (fc n) (cd n (Gg n (gS (mW n mv) 63 6)))
        refine J_iremN (pc := 51) dX8_isSoundNow_51 (by omega) (by omega) (by omega) ?_
        refine J_if_neN (pc := 52) (tgt := 89) dX8_isSoundNow_52 (by decide) (by omega) (fun ht15 => ?_) (fun hf16 => ?_)
        · exact absurd (Nat.mod_eq_zero_of_dvd (cd_fc (by omega) hn2 hCl)) ht15
        · refine J_iload_n (pc := 55) dX8_isSoundNow_55 rfl rfl ?_
          refine J_iload_n (pc := 56) dX8_isSoundNow_56 rfl rfl ?_
          refine J_icmp_neN (pc := 57) (tgt := 89) dX8_isSoundNow_57 (by decide) (by omega) (by omega) (fun ht17 => ?_) (fun hf18 => ?_)
          · exact absurd hpr ht17
          · refine J_iload_n (pc := 60) dX8_isSoundNow_60 rfl rfl ?_
            refine J_iload_n (pc := 61) dX8_isSoundNow_61 rfl rfl ?_
            refine J_icmp_eqN (pc := 62) (tgt := 72) dX8_isSoundNow_62 (by decide) (by omega) (by omega) (fun ht19 => ?_) (fun hf20 => ?_)
            · refine J_iload_n (pc := 72) dX8_isSoundNow_72 rfl rfl ?_
              refine J_iconst (pc := 73) (v := nI 1) dX8_isSoundNow_73 (by decide) ?_
              refine J_aload_n (pc := 74) dX8_isSoundNow_74 rfl rfl rfl ?_
              refine J_get (pc := 75) (k := 6) dX8_isSoundNow_75 kC9 (by decide) ff_X8_85 h19_11 rfl ?_
              rw [hen]
              refine J_callS0 (pc := 78) (M := mX8_isSoundNow) (as := [.int (nI (enF n (mW n mv) 63 6))]) dX8_isSoundNow_78 fw_J6_bitCount_0f7a4 fl_X8_96 fs_J6_bitCount_0f7a4 rfl (c_J6_bitCount_0f7a4_atx hs (d := d - 1) (Nat.le_trans (by decide) hdm) (w := w11) (nI (enF n (mW n mv) 63 6)) (kc := 0) (ks := 0)) hdp (st := [.int (nI 1), .int (nI (cd n (Gg n (gS (mW n mv) 63 6))))]) (Nat.le_of_ble_eq_true rfl) rfl (kr_P fun v21 hv21 => ?_) kx_I
              subst hv21
              have he6 := enF_lt (n := n) (cm := mW n mv) (s := 63) 6 (Nat.le_refl 6)
              have hp2 := enF_2 (cm := mW n mv) (s := 63) (by omega) hn2 (fun c hc => mW_Mv hn2 hy0 hc) 6 (Nat.le_refl 6)
              have hpe : pc32 (nI (enF n (mW n mv) 63 6)) = cnt (fun i => (enF n (mW n mv) 63 6).testBit i) 32 := pc32_nI (by omega)
              have hp2b : 2 ^ pc32 (nI (enF n (mW n mv) 63 6)) ≤ cd n (Gg n (gS (mW n mv) 63 6)) := by rw [hpe]; exact hp2
              have hp3 := pw31 hp2b hN5
              refine J_shlOne (pc := 81) dX8_isSoundNow_81 (by omega) ?_
              refine J_icmp_ltN (pc := 82) (tgt := 89) dX8_isSoundNow_82 (by decide) (by omega) (by omega) (fun ht22 => ?_) (fun hf23 => ?_)
              · exact absurd ht22 (by omega)
              · refine J_iconst (pc := 85) (v := nI 1) dX8_isSoundNow_85 (by decide) ?_
                refine J_goto (pc := 86) (tgt := 90) dX8_isSoundNow_86 (by decide) ?_
                refine J_istore (pc := 90) dX8_isSoundNow_90 (by decide) rfl ?_
                show J X mX8_isSoundNow d (kc - 13) (ks - 2054) 92 [some (.ref 19), some (.int (nI (cd n (Gg n (gS (mW n mv) 63 6))))), some (.int (nI y2)), some (.int (nI (cd n (fun x => (Gg n (gS (mW n mv) 63 6)) x ∧ sg n x = nI 1)))), some (.int (nI 1)), none] [] w11 _
                refine J_iconst (pc := 92) (v := nI 0) dX8_isSoundNow_92 (by decide) ?_
                refine J_istore (pc := 93) dX8_isSoundNow_93 (by decide) rfl ?_
                show J X mX8_isSoundNow d (kc - 13) (ks - 2054) 95 [some (.ref 19), some (.int (nI (cd n (Gg n (gS (mW n mv) 63 6))))), some (.int (nI y2)), some (.int (nI (cd n (fun x => (Gg n (gS (mW n mv) 63 6)) x ∧ sg n x = nI 1)))), some (.int (nI 1)), some (.int (nI 0))] [] w11 _
                have lp95_24 : ∀ (fuel : Nat) (y4 : Nat) (c5 : Nat), (y4 = 1) → (c5 ≤ 6) → (6 - c5 < fuel) → J X mX8_isSoundNow d (kc - 13) (ks - 2054) 95 [some (.ref 19), some (.int (nI (cd n (Gg n (gS (mW n mv) 63 6))))), some (.int (nI y2)), some (.int (nI (cd n (fun x => (Gg n (gS (mW n mv) 63 6)) x ∧ sg n x = nI 1)))), some (.int (nI y4)), some (.int (nI c5))] [] w11 (pI (fun v => v = nI 1) (fun w' => ∃ (rw' : Nat → Nat), ∃ (nx' : Nat → Nat), ∃ (b' : Nat), ∃ (bt' : List Int32), ∃ (kn' : Int32), ∃ (en' : Int32), RM n mv rw' nx' b' bt' kn' en' dn rf kk th w' ∧ FR b b' w w' ∧ (∀ i, rw' i < 7) ∧ (∀ i, nx' i < 7) ∧ KX n mv kn' bt' en')) := by
                  intro fuellp95_24
                  induction fuellp95_24 with
                  | zero => intros; omega
                  | succ fuellp95_24 ihlp95_24 =>
                    intro y4 c5 hv95_0 hv95_1 hf25
                    refine J_iload (pc := 95) dX8_isSoundNow_95 rfl ?_
                    refine J_bipush (pc := 97) (v := nI 6) dX8_isSoundNow_97 (by decide) ?_
                    refine J_icmp_geN (pc := 99) (tgt := 149) dX8_isSoundNow_99 (by decide) (by omega) (by omega) (fun ht26 => ?_) (fun hf27 => ?_)
                    · refine J_iload (pc := 149) dX8_isSoundNow_149 rfl ?_
                      refine J_if_eqN (pc := 151) (tgt := 175) dX8_isSoundNow_151 (by decide) (by omega) (fun ht28 => ?_) (fun hf29 => ?_)
                      · exact absurd ht28 (by omega)
                      · refine J_aload_n (pc := 154) dX8_isSoundNow_154 rfl rfl rfl ?_
                        refine J_bipush (pc := 155) (v := nI 63) dX8_isSoundNow_155 (by decide) ?_
                        refine J_iconst (pc := 157) (v := nI 2) dX8_isSoundNow_157 (by decide) ?_
                        refine J_callV0 (pc := 158) (M := mX8_isSoundNow) (as := [.int (nI 63), .int (nI 2)]) dX8_isSoundNow_158 fw_X8_byThoseThatStay fl_X8_197 fm_X8_byThoseThatStay fe_X8_byThoseThatStay h19_11 (by decide) rfl rfl rfl (c_X8_byThoseThatStay_atkx hs (d := d - 1) (Nat.le_trans (by decide) hdm) (w := w11) (n := n) (mv := mv) (rw := rw11) (nx := nx1) (b := b1) (bt := bt1) (kn := kn1) (en := en1) (dn := dn) (rf := rf) (kk := kk) (th := th) ⟨h19_11, h20_11, h21_11, h22_11, hbb_11, hbl_11, hb3_11⟩ hn1 hn2 gm hgrw11 hgnx1 63 2 (by first | assumption | omega) (by first | assumption | omega) (by exact ⟨hkn, hBXE⟩) (by first | assumption | omega) (kc := 0) (ks := 0)) hdp (st := []) (Nat.le_of_ble_eq_true rfl) rfl (kr_I fun v30 w30 hv30 hw30 => ?_) kx_I
                        obtain ⟨rw30, hR30, hFc30, hgrw30⟩ := hw30
                        obtain ⟨h19_30, h20_30, h21_30, h22_30, hbb_30, hbl_30, hb3_30⟩ := hR30
                        have hF30 := hF11.tr hFc30
                        subst hv30
                        refine J_aload_n (pc := 161) dX8_isSoundNow_161 rfl rfl rfl ?_
                        refine J_bipush (pc := 162) (v := nI 63) dX8_isSoundNow_162 (by decide) ?_
                        refine J_iconst (pc := 164) (v := nI 2) dX8_isSoundNow_164 (by decide) ?_
                        refine J_callV (pc := 165) (M := mX8_isSoundNow) (as := [.int (nI 63), .int (nI 2)]) dX8_isSoundNow_165 fw_X8_oneByOne fl_X8_200 fm_X8_oneByOne fe_X8_oneByOne h19_30 (by decide) rfl rfl rfl (c_X8_oneByOne_atx hs (d := d - 1) (Nat.le_trans (by decide) hdm) (w := w30) (n := n) (mv := mv) (rw := rw30) (nx := nx1) (b := b1) (bt := bt1) (kn := kn1) (en := en1) (dn := dn) (rf := rf) (kk := kk) (th := th) ⟨h19_30, h20_30, h21_30, h22_30, hbb_30, hbl_30, hb3_30⟩ hn1 hn2 gm hgrw30 hgnx1 63 2 (by first | assumption | omega) (by first | assumption | omega) (by first | assumption | omega) (by first | assumption | omega) (kc := 2) (ks := 4374) (Nat.le_refl _) (Nat.le_refl _)) hdp (by omega) (by omega) (st := [.int (nI (cQ n (Gg n (gS (mW n mv) 63 6)) 2))]) (Nat.le_of_ble_eq_true rfl) rfl (kr_I fun v31 w31 hv31 hw31 => ?_) kx_I
                        obtain ⟨nx31, hR31, hFc31, hgnx31⟩ := hw31
                        obtain ⟨h19_31, h20_31, h21_31, h22_31, hbb_31, hbl_31, hb3_31⟩ := hR31
                        have hF31 := hF30.tr hFc31
                        subst hv31
                        have hbu := burn (co := 2) (s := 63) (cm := mW n mv) (by decide) (by omega) hn2 (fun c hc => mW_Mv hn2 hy0 hc)
                        have hcl : ct (fun k => ∀ j, j < k → ¬ Rc 2 n (mW n mv) 63 j k) (2 ^ n) ≤ 2 ^ n := ct_le _ _
                        have h2n : 2 ^ n ≤ 2 ^ 7 := Nat.pow_le_pow_right (by decide) hn2
                        refine J_icmp_neN (pc := 168) (tgt := 175) dX8_isSoundNow_168 (by decide) (by omega) (by omega) (fun ht32 => ?_) (fun hf33 => ?_)
                        · exact absurd hbu ht32
                        · refine J_iconst (pc := 171) (v := nI 1) dX8_isSoundNow_171 (by decide) ?_
                          refine J_goto (pc := 172) (tgt := 176) dX8_isSoundNow_172 (by decide) ?_
                          exact J_zret (pc := 176) dX8_isSoundNow_176 rfl (nar_b (by first | decide | omega)) ⟨rfl, ⟨rw30, nx31, b1, bt1, kn1, en1, ⟨h19_31, h20_31, h21_31, h22_31, hbb_31, hbl_31, hb3_31⟩, hF31, hgrw30, hgnx31, (by first | assumption | exact KX_i (by assumption) (by decide) (by assumption))⟩⟩
                    · refine J_iload (pc := 102) dX8_isSoundNow_102 rfl ?_
                      refine J_if_eqN (pc := 104) (tgt := 140) dX8_isSoundNow_104 (by decide) (by omega) (fun ht34 => ?_) (fun hf35 => ?_)
                      · exact absurd ht34 (by omega)
                      · refine J_aload_n (pc := 107) dX8_isSoundNow_107 rfl rfl rfl ?_
                        refine J_bipush (pc := 108) (v := nI 63) dX8_isSoundNow_108 (by decide) ?_
                        refine J_iload (pc := 110) dX8_isSoundNow_110 rfl ?_
                        refine J_callV0 (pc := 112) (M := mX8_isSoundNow) (as := [.int (nI 63), .int (nI c5)]) dX8_isSoundNow_112 fw_X8_isInNow fl_X8_185 fm_X8_isInNow fe_X8_isInNow h19_11 (by decide) rfl rfl rfl (c_X8_isInNow_atkx hs (d := d - 1) (Nat.le_trans (by decide) hdm) (w := w11) (n := n) (mv := mv) (rw := rw11) (nx := nx1) (b := b1) (bt := bt1) (kn := kn1) (en := en1) (dn := dn) (rf := rf) (kk := kk) (th := th) ⟨h19_11, h20_11, h21_11, h22_11, hbb_11, hbl_11, hb3_11⟩ hn1 hn2 gm hgrw11 hgnx1 63 c5 (by first | assumption | omega) (by first | assumption | omega) (by exact ⟨hkn, hBXE⟩) (by first | assumption | omega) (kc := 0) (ks := 0)) hdp (st := []) (Nat.le_of_ble_eq_true rfl) rfl (kr_P fun v36 hv36 => ?_) kx_I
                        rcases hv36 with ⟨rfl, hk36_0⟩ | ⟨rfl, hk36_0⟩
                        · refine J_if_eqN (pc := 115) (tgt := 140) dX8_isSoundNow_115 (by decide) (by decide) (fun _ => ?_) (fun h => absurd h (by decide))
                          refine J_iconst (pc := 140) (v := nI 0) dX8_isSoundNow_140 (by decide) ?_
                          refine J_istore (pc := 141) dX8_isSoundNow_141 (by decide) rfl ?_
                          show J X mX8_isSoundNow d (kc - 13) (ks - 2054) 143 [some (.ref 19), some (.int (nI (cd n (Gg n (gS (mW n mv) 63 6))))), some (.int (nI y2)), some (.int (nI (cd n (fun x => (Gg n (gS (mW n mv) 63 6)) x ∧ sg n x = nI 1)))), some (.int (nI 0)), some (.int (nI c5))] [] w11 _
                          refine J_iincN (pc := 143) (b := 1) dX8_isSoundNow_143 rfl (by decide) (by decide) rfl ?_
                          show J X mX8_isSoundNow d (kc - 13) (ks - 2054) 146 [some (.ref 19), some (.int (nI (cd n (Gg n (gS (mW n mv) 63 6))))), some (.int (nI y2)), some (.int (nI (cd n (fun x => (Gg n (gS (mW n mv) 63 6)) x ∧ sg n x = nI 1)))), some (.int (nI 0)), some (.int (nI (c5 + 1)))] [] w11 _
                          refine J_goto (pc := 146) (tgt := 95) dX8_isSoundNow_146 (by decide) ?_
                          exact J_sub (L' := [some (.ref 19), some (.int (nI (cd n (Gg n (gS (mW n mv) 63 6))))), some (.int (nI y2)), some (.int (nI (cd n (fun x => (Gg n (gS (mW n mv) 63 6)) x ∧ sg n x = nI 1)))), some (.int (nI 0)), some (.int (nI (c5 + 1)))]) ⟨rfl, ⟨rfl, ⟨rfl, ⟨rfl, ⟨rfl, ⟨rfl, trivial⟩⟩⟩⟩⟩⟩ (ihlp95_24 0 (c5 + 1) (by first | rfl | exact absurd (gen63 hn2 hy0 (by omega)) (by assumption)) (by first | assumption | omega) (by omega))
                        · refine J_if_eqN (pc := 115) (tgt := 140) dX8_isSoundNow_115 (by decide) (by decide) (fun h => absurd h (by decide)) (fun _ => ?_)
                          refine J_iload_n (pc := 118) dX8_isSoundNow_118 rfl rfl ?_
                          refine J_aload_n (pc := 119) dX8_isSoundNow_119 rfl rfl rfl ?_
                          refine J_aload_n (pc := 120) dX8_isSoundNow_120 rfl rfl rfl ?_
                          refine J_get (pc := 121) (k := 1) dX8_isSoundNow_121 kC9 (by decide) ff_X8_13 h19_11 rfl ?_
                          refine J_iload (pc := 124) dX8_isSoundNow_124 rfl ?_
                          refine J_bipush (pc := 126) (v := nI 7) dX8_isSoundNow_126 (by decide) ?_
                          refine J_imulN (pc := 128) dX8_isSoundNow_128 ?_
                          refine J_callV0 (pc := 129) (M := mX8_isSoundNow) (as := [.ref 20, .int (nI (c5 * 7))]) dX8_isSoundNow_129 fw_X8_orderOf fl_X8_172 fm_X8_orderOf fe_X8_orderOf h19_11 (by decide) rfl rfl rfl (c_X8_orderOf_at20x hs (d := d - 1) (Nat.le_trans (by decide) hdm) (w := w11) (n := n) (mv := mv) (rw := rw11) (nx := nx1) (b := b1) (bt := bt1) (kn := kn1) (en := en1) (dn := dn) (rf := rf) (kk := kk) (th := th) ⟨h19_11, h20_11, h21_11, h22_11, hbb_11, hbl_11, hb3_11⟩ hn1 hn2 gm hgrw11 hgnx1 (c5 * 7) (by first | assumption | omega) (by exact hy0 c5 (by omega)) (kc := 0) (ks := 0)) hdp (st := [.int (nI (cd n (Gg n (gS (mW n mv) 63 6))))]) (Nat.le_of_ble_eq_true rfl) rfl (kr_P fun v37 hv37 => ?_) kx_I
                          obtain ⟨k37, rfl, hk37⟩ := hv37
                          have hoc := (oC_mW hn2 hy0 (c := c5) (by omega)).trans hk37.1.symm
                          have hod := order_d (by omega) hn2 hCl (mW_Mv hn2 hy0 (c := c5) (by omega)) (gen63 hn2 hy0 (by omega))
                          rw [hoc] at hod
                          have hm38 := Nat.mod_lt (cd n (Gg n (gS (mW n mv) 63 6))) (show 0 < k37 by omega)
                          have hm39 := Nat.div_le_self (cd n (Gg n (gS (mW n mv) 63 6))) k37
                          refine J_iremN (pc := 132) dX8_isSoundNow_132 (by omega) (by omega) (by omega) ?_
                          refine J_if_neN (pc := 133) (tgt := 140) dX8_isSoundNow_133 (by decide) (by omega) (fun ht40 => ?_) (fun hf41 => ?_)
                          · exact absurd (Nat.mod_eq_zero_of_dvd hod) ht40
                          · refine J_iconst (pc := 136) (v := nI 1) dX8_isSoundNow_136 (by decide) ?_
                            refine J_goto (pc := 137) (tgt := 141) dX8_isSoundNow_137 (by decide) ?_
                            refine J_istore (pc := 141) dX8_isSoundNow_141 (by decide) rfl ?_
                            show J X mX8_isSoundNow d (kc - 13) (ks - 2054) 143 [some (.ref 19), some (.int (nI (cd n (Gg n (gS (mW n mv) 63 6))))), some (.int (nI y2)), some (.int (nI (cd n (fun x => (Gg n (gS (mW n mv) 63 6)) x ∧ sg n x = nI 1)))), some (.int (nI 1)), some (.int (nI c5))] [] w11 _
                            refine J_iincN (pc := 143) (b := 1) dX8_isSoundNow_143 rfl (by decide) (by decide) rfl ?_
                            show J X mX8_isSoundNow d (kc - 13) (ks - 2054) 146 [some (.ref 19), some (.int (nI (cd n (Gg n (gS (mW n mv) 63 6))))), some (.int (nI y2)), some (.int (nI (cd n (fun x => (Gg n (gS (mW n mv) 63 6)) x ∧ sg n x = nI 1)))), some (.int (nI 1)), some (.int (nI (c5 + 1)))] [] w11 _
                            refine J_goto (pc := 146) (tgt := 95) dX8_isSoundNow_146 (by decide) ?_
                            exact J_sub (L' := [some (.ref 19), some (.int (nI (cd n (Gg n (gS (mW n mv) 63 6))))), some (.int (nI y2)), some (.int (nI (cd n (fun x => (Gg n (gS (mW n mv) 63 6)) x ∧ sg n x = nI 1)))), some (.int (nI 1)), some (.int (nI (c5 + 1)))]) ⟨rfl, ⟨rfl, ⟨rfl, ⟨rfl, ⟨rfl, ⟨rfl, trivial⟩⟩⟩⟩⟩⟩ (ihlp95_24 1 (c5 + 1) (by first | rfl | exact absurd (gen63 hn2 hy0 (by omega)) (by assumption)) (by first | assumption | omega) (by omega))
                exact J_sub (L' := [some (.ref 19), some (.int (nI (cd n (Gg n (gS (mW n mv) 63 6))))), some (.int (nI y2)), some (.int (nI (cd n (fun x => (Gg n (gS (mW n mv) 63 6)) x ∧ sg n x = nI 1)))), some (.int (nI 1)), some (.int (nI 0))]) ⟨rfl, ⟨rfl, ⟨rfl, ⟨rfl, ⟨rfl, ⟨rfl, trivial⟩⟩⟩⟩⟩⟩ (lp95_24 _ 1 0 (by rfl) (by first | assumption | omega) (Nat.lt_succ_self _))
            · refine J_iconst (pc := 65) (v := nI 2) dX8_isSoundNow_65 (by decide) ?_
              refine J_iload_n (pc := 66) dX8_isSoundNow_66 rfl rfl ?_
              refine J_imulN (pc := 67) dX8_isSoundNow_67 ?_
              refine J_iload_n (pc := 68) dX8_isSoundNow_68 rfl rfl ?_
              refine J_icmp_neN (pc := 69) (tgt := 89) dX8_isSoundNow_69 (by decide) (by omega) (by omega) (fun ht42 => ?_) (fun hf43 => ?_)
              · exact absurd (hev.resolve_left (by assumption)) ht42
              · refine J_iload_n (pc := 72) dX8_isSoundNow_72 rfl rfl ?_
                refine J_iconst (pc := 73) (v := nI 1) dX8_isSoundNow_73 (by decide) ?_
                refine J_aload_n (pc := 74) dX8_isSoundNow_74 rfl rfl rfl ?_
                refine J_get (pc := 75) (k := 6) dX8_isSoundNow_75 kC9 (by decide) ff_X8_85 h19_11 rfl ?_
                rw [hen]
                refine J_callS0 (pc := 78) (M := mX8_isSoundNow) (as := [.int (nI (enF n (mW n mv) 63 6))]) dX8_isSoundNow_78 fw_J6_bitCount_0f7a4 fl_X8_96 fs_J6_bitCount_0f7a4 rfl (c_J6_bitCount_0f7a4_atx hs (d := d - 1) (Nat.le_trans (by decide) hdm) (w := w11) (nI (enF n (mW n mv) 63 6)) (kc := 0) (ks := 0)) hdp (st := [.int (nI 1), .int (nI (cd n (Gg n (gS (mW n mv) 63 6))))]) (Nat.le_of_ble_eq_true rfl) rfl (kr_P fun v44 hv44 => ?_) kx_I
                subst hv44
                have he6 := enF_lt (n := n) (cm := mW n mv) (s := 63) 6 (Nat.le_refl 6)
                have hp2 := enF_2 (cm := mW n mv) (s := 63) (by omega) hn2 (fun c hc => mW_Mv hn2 hy0 hc) 6 (Nat.le_refl 6)
                have hpe : pc32 (nI (enF n (mW n mv) 63 6)) = cnt (fun i => (enF n (mW n mv) 63 6).testBit i) 32 := pc32_nI (by omega)
                have hp2b : 2 ^ pc32 (nI (enF n (mW n mv) 63 6)) ≤ cd n (Gg n (gS (mW n mv) 63 6)) := by rw [hpe]; exact hp2
                have hp3 := pw31 hp2b hN5
                refine J_shlOne (pc := 81) dX8_isSoundNow_81 (by omega) ?_
                refine J_icmp_ltN (pc := 82) (tgt := 89) dX8_isSoundNow_82 (by decide) (by omega) (by omega) (fun ht45 => ?_) (fun hf46 => ?_)
                · exact absurd ht45 (by omega)
                · refine J_iconst (pc := 85) (v := nI 1) dX8_isSoundNow_85 (by decide) ?_
                  refine J_goto (pc := 86) (tgt := 90) dX8_isSoundNow_86 (by decide) ?_
                  refine J_istore (pc := 90) dX8_isSoundNow_90 (by decide) rfl ?_
                  show J X mX8_isSoundNow d (kc - 13) (ks - 2054) 92 [some (.ref 19), some (.int (nI (cd n (Gg n (gS (mW n mv) 63 6))))), some (.int (nI y2)), some (.int (nI (cd n (fun x => (Gg n (gS (mW n mv) 63 6)) x ∧ sg n x = nI 1)))), some (.int (nI 1)), none] [] w11 _
                  refine J_iconst (pc := 92) (v := nI 0) dX8_isSoundNow_92 (by decide) ?_
                  refine J_istore (pc := 93) dX8_isSoundNow_93 (by decide) rfl ?_
                  show J X mX8_isSoundNow d (kc - 13) (ks - 2054) 95 [some (.ref 19), some (.int (nI (cd n (Gg n (gS (mW n mv) 63 6))))), some (.int (nI y2)), some (.int (nI (cd n (fun x => (Gg n (gS (mW n mv) 63 6)) x ∧ sg n x = nI 1)))), some (.int (nI 1)), some (.int (nI 0))] [] w11 _
                  have lp95_47 : ∀ (fuel : Nat) (y4 : Nat) (c5 : Nat), (y4 = 1) → (c5 ≤ 6) → (6 - c5 < fuel) → J X mX8_isSoundNow d (kc - 13) (ks - 2054) 95 [some (.ref 19), some (.int (nI (cd n (Gg n (gS (mW n mv) 63 6))))), some (.int (nI y2)), some (.int (nI (cd n (fun x => (Gg n (gS (mW n mv) 63 6)) x ∧ sg n x = nI 1)))), some (.int (nI y4)), some (.int (nI c5))] [] w11 (pI (fun v => v = nI 1) (fun w' => ∃ (rw' : Nat → Nat), ∃ (nx' : Nat → Nat), ∃ (b' : Nat), ∃ (bt' : List Int32), ∃ (kn' : Int32), ∃ (en' : Int32), RM n mv rw' nx' b' bt' kn' en' dn rf kk th w' ∧ FR b b' w w' ∧ (∀ i, rw' i < 7) ∧ (∀ i, nx' i < 7) ∧ KX n mv kn' bt' en')) := by
                    intro fuellp95_47
                    induction fuellp95_47 with
                    | zero => intros; omega
                    | succ fuellp95_47 ihlp95_47 =>
                      intro y4 c5 hv95_0 hv95_1 hf48
                      refine J_iload (pc := 95) dX8_isSoundNow_95 rfl ?_
                      refine J_bipush (pc := 97) (v := nI 6) dX8_isSoundNow_97 (by decide) ?_
                      refine J_icmp_geN (pc := 99) (tgt := 149) dX8_isSoundNow_99 (by decide) (by omega) (by omega) (fun ht49 => ?_) (fun hf50 => ?_)
                      · refine J_iload (pc := 149) dX8_isSoundNow_149 rfl ?_
                        refine J_if_eqN (pc := 151) (tgt := 175) dX8_isSoundNow_151 (by decide) (by omega) (fun ht51 => ?_) (fun hf52 => ?_)
                        · exact absurd ht51 (by omega)
                        · refine J_aload_n (pc := 154) dX8_isSoundNow_154 rfl rfl rfl ?_
                          refine J_bipush (pc := 155) (v := nI 63) dX8_isSoundNow_155 (by decide) ?_
                          refine J_iconst (pc := 157) (v := nI 2) dX8_isSoundNow_157 (by decide) ?_
                          refine J_callV0 (pc := 158) (M := mX8_isSoundNow) (as := [.int (nI 63), .int (nI 2)]) dX8_isSoundNow_158 fw_X8_byThoseThatStay fl_X8_197 fm_X8_byThoseThatStay fe_X8_byThoseThatStay h19_11 (by decide) rfl rfl rfl (c_X8_byThoseThatStay_atkx hs (d := d - 1) (Nat.le_trans (by decide) hdm) (w := w11) (n := n) (mv := mv) (rw := rw11) (nx := nx1) (b := b1) (bt := bt1) (kn := kn1) (en := en1) (dn := dn) (rf := rf) (kk := kk) (th := th) ⟨h19_11, h20_11, h21_11, h22_11, hbb_11, hbl_11, hb3_11⟩ hn1 hn2 gm hgrw11 hgnx1 63 2 (by first | assumption | omega) (by first | assumption | omega) (by exact ⟨hkn, hBXE⟩) (by first | assumption | omega) (kc := 0) (ks := 0)) hdp (st := []) (Nat.le_of_ble_eq_true rfl) rfl (kr_I fun v53 w53 hv53 hw53 => ?_) kx_I
                          obtain ⟨rw53, hR53, hFc53, hgrw53⟩ := hw53
                          obtain ⟨h19_53, h20_53, h21_53, h22_53, hbb_53, hbl_53, hb3_53⟩ := hR53
                          have hF53 := hF11.tr hFc53
                          subst hv53
                          refine J_aload_n (pc := 161) dX8_isSoundNow_161 rfl rfl rfl ?_
                          refine J_bipush (pc := 162) (v := nI 63) dX8_isSoundNow_162 (by decide) ?_
                          refine J_iconst (pc := 164) (v := nI 2) dX8_isSoundNow_164 (by decide) ?_
                          refine J_callV (pc := 165) (M := mX8_isSoundNow) (as := [.int (nI 63), .int (nI 2)]) dX8_isSoundNow_165 fw_X8_oneByOne fl_X8_200 fm_X8_oneByOne fe_X8_oneByOne h19_53 (by decide) rfl rfl rfl (c_X8_oneByOne_atx hs (d := d - 1) (Nat.le_trans (by decide) hdm) (w := w53) (n := n) (mv := mv) (rw := rw53) (nx := nx1) (b := b1) (bt := bt1) (kn := kn1) (en := en1) (dn := dn) (rf := rf) (kk := kk) (th := th) ⟨h19_53, h20_53, h21_53, h22_53, hbb_53, hbl_53, hb3_53⟩ hn1 hn2 gm hgrw53 hgnx1 63 2 (by first | assumption | omega) (by first | assumption | omega) (by first | assumption | omega) (by first | assumption | omega) (kc := 2) (ks := 4374) (Nat.le_refl _) (Nat.le_refl _)) hdp (by omega) (by omega) (st := [.int (nI (cQ n (Gg n (gS (mW n mv) 63 6)) 2))]) (Nat.le_of_ble_eq_true rfl) rfl (kr_I fun v54 w54 hv54 hw54 => ?_) kx_I
                          obtain ⟨nx54, hR54, hFc54, hgnx54⟩ := hw54
                          obtain ⟨h19_54, h20_54, h21_54, h22_54, hbb_54, hbl_54, hb3_54⟩ := hR54
                          have hF54 := hF53.tr hFc54
                          subst hv54
                          have hbu := burn (co := 2) (s := 63) (cm := mW n mv) (by decide) (by omega) hn2 (fun c hc => mW_Mv hn2 hy0 hc)
                          have hcl : ct (fun k => ∀ j, j < k → ¬ Rc 2 n (mW n mv) 63 j k) (2 ^ n) ≤ 2 ^ n := ct_le _ _
                          have h2n : 2 ^ n ≤ 2 ^ 7 := Nat.pow_le_pow_right (by decide) hn2
                          refine J_icmp_neN (pc := 168) (tgt := 175) dX8_isSoundNow_168 (by decide) (by omega) (by omega) (fun ht55 => ?_) (fun hf56 => ?_)
                          · exact absurd hbu ht55
                          · refine J_iconst (pc := 171) (v := nI 1) dX8_isSoundNow_171 (by decide) ?_
                            refine J_goto (pc := 172) (tgt := 176) dX8_isSoundNow_172 (by decide) ?_
                            exact J_zret (pc := 176) dX8_isSoundNow_176 rfl (nar_b (by first | decide | omega)) ⟨rfl, ⟨rw53, nx54, b1, bt1, kn1, en1, ⟨h19_54, h20_54, h21_54, h22_54, hbb_54, hbl_54, hb3_54⟩, hF54, hgrw53, hgnx54, (by first | assumption | exact KX_i (by assumption) (by decide) (by assumption))⟩⟩
                      · refine J_iload (pc := 102) dX8_isSoundNow_102 rfl ?_
                        refine J_if_eqN (pc := 104) (tgt := 140) dX8_isSoundNow_104 (by decide) (by omega) (fun ht57 => ?_) (fun hf58 => ?_)
                        · exact absurd ht57 (by omega)
                        · refine J_aload_n (pc := 107) dX8_isSoundNow_107 rfl rfl rfl ?_
                          refine J_bipush (pc := 108) (v := nI 63) dX8_isSoundNow_108 (by decide) ?_
                          refine J_iload (pc := 110) dX8_isSoundNow_110 rfl ?_
                          refine J_callV0 (pc := 112) (M := mX8_isSoundNow) (as := [.int (nI 63), .int (nI c5)]) dX8_isSoundNow_112 fw_X8_isInNow fl_X8_185 fm_X8_isInNow fe_X8_isInNow h19_11 (by decide) rfl rfl rfl (c_X8_isInNow_atkx hs (d := d - 1) (Nat.le_trans (by decide) hdm) (w := w11) (n := n) (mv := mv) (rw := rw11) (nx := nx1) (b := b1) (bt := bt1) (kn := kn1) (en := en1) (dn := dn) (rf := rf) (kk := kk) (th := th) ⟨h19_11, h20_11, h21_11, h22_11, hbb_11, hbl_11, hb3_11⟩ hn1 hn2 gm hgrw11 hgnx1 63 c5 (by first | assumption | omega) (by first | assumption | omega) (by exact ⟨hkn, hBXE⟩) (by first | assumption | omega) (kc := 0) (ks := 0)) hdp (st := []) (Nat.le_of_ble_eq_true rfl) rfl (kr_P fun v59 hv59 => ?_) kx_I
                          rcases hv59 with ⟨rfl, hk59_0⟩ | ⟨rfl, hk59_0⟩
                          · refine J_if_eqN (pc := 115) (tgt := 140) dX8_isSoundNow_115 (by decide) (by decide) (fun _ => ?_) (fun h => absurd h (by decide))
                            refine J_iconst (pc := 140) (v := nI 0) dX8_isSoundNow_140 (by decide) ?_
                            refine J_istore (pc := 141) dX8_isSoundNow_141 (by decide) rfl ?_
                            show J X mX8_isSoundNow d (kc - 13) (ks - 2054) 143 [some (.ref 19), some (.int (nI (cd n (Gg n (gS (mW n mv) 63 6))))), some (.int (nI y2)), some (.int (nI (cd n (fun x => (Gg n (gS (mW n mv) 63 6)) x ∧ sg n x = nI 1)))), some (.int (nI 0)), some (.int (nI c5))] [] w11 _
                            refine J_iincN (pc := 143) (b := 1) dX8_isSoundNow_143 rfl (by decide) (by decide) rfl ?_
                            show J X mX8_isSoundNow d (kc - 13) (ks - 2054) 146 [some (.ref 19), some (.int (nI (cd n (Gg n (gS (mW n mv) 63 6))))), some (.int (nI y2)), some (.int (nI (cd n (fun x => (Gg n (gS (mW n mv) 63 6)) x ∧ sg n x = nI 1)))), some (.int (nI 0)), some (.int (nI (c5 + 1)))] [] w11 _
                            refine J_goto (pc := 146) (tgt := 95) dX8_isSoundNow_146 (by decide) ?_
                            exact J_sub (L' := [some (.ref 19), some (.int (nI (cd n (Gg n (gS (mW n mv) 63 6))))), some (.int (nI y2)), some (.int (nI (cd n (fun x => (Gg n (gS (mW n mv) 63 6)) x ∧ sg n x = nI 1)))), some (.int (nI 0)), some (.int (nI (c5 + 1)))]) ⟨rfl, ⟨rfl, ⟨rfl, ⟨rfl, ⟨rfl, ⟨rfl, trivial⟩⟩⟩⟩⟩⟩ (ihlp95_47 0 (c5 + 1) (by first | rfl | exact absurd (gen63 hn2 hy0 (by omega)) (by assumption)) (by first | assumption | omega) (by omega))
                          · refine J_if_eqN (pc := 115) (tgt := 140) dX8_isSoundNow_115 (by decide) (by decide) (fun h => absurd h (by decide)) (fun _ => ?_)
                            refine J_iload_n (pc := 118) dX8_isSoundNow_118 rfl rfl ?_
                            refine J_aload_n (pc := 119) dX8_isSoundNow_119 rfl rfl rfl ?_
                            refine J_aload_n (pc := 120) dX8_isSoundNow_120 rfl rfl rfl ?_
                            refine J_get (pc := 121) (k := 1) dX8_isSoundNow_121 kC9 (by decide) ff_X8_13 h19_11 rfl ?_
                            refine J_iload (pc := 124) dX8_isSoundNow_124 rfl ?_
                            refine J_bipush (pc := 126) (v := nI 7) dX8_isSoundNow_126 (by decide) ?_
                            refine J_imulN (pc := 128) dX8_isSoundNow_128 ?_
                            refine J_callV0 (pc := 129) (M := mX8_isSoundNow) (as := [.ref 20, .int (nI (c5 * 7))]) dX8_isSoundNow_129 fw_X8_orderOf fl_X8_172 fm_X8_orderOf fe_X8_orderOf h19_11 (by decide) rfl rfl rfl (c_X8_orderOf_at20x hs (d := d - 1) (Nat.le_trans (by decide) hdm) (w := w11) (n := n) (mv := mv) (rw := rw11) (nx := nx1) (b := b1) (bt := bt1) (kn := kn1) (en := en1) (dn := dn) (rf := rf) (kk := kk) (th := th) ⟨h19_11, h20_11, h21_11, h22_11, hbb_11, hbl_11, hb3_11⟩ hn1 hn2 gm hgrw11 hgnx1 (c5 * 7) (by first | assumption | omega) (by exact hy0 c5 (by omega)) (kc := 0) (ks := 0)) hdp (st := [.int (nI (cd n (Gg n (gS (mW n mv) 63 6))))]) (Nat.le_of_ble_eq_true rfl) rfl (kr_P fun v60 hv60 => ?_) kx_I
                            obtain ⟨k60, rfl, hk60⟩ := hv60
                            have hoc := (oC_mW hn2 hy0 (c := c5) (by omega)).trans hk60.1.symm
                            have hod := order_d (by omega) hn2 hCl (mW_Mv hn2 hy0 (c := c5) (by omega)) (gen63 hn2 hy0 (by omega))
                            rw [hoc] at hod
                            have hm61 := Nat.mod_lt (cd n (Gg n (gS (mW n mv) 63 6))) (show 0 < k60 by omega)
                            have hm62 := Nat.div_le_self (cd n (Gg n (gS (mW n mv) 63 6))) k60
                            refine J_iremN (pc := 132) dX8_isSoundNow_132 (by omega) (by omega) (by omega) ?_
                            refine J_if_neN (pc := 133) (tgt := 140) dX8_isSoundNow_133 (by decide) (by omega) (fun ht63 => ?_) (fun hf64 => ?_)
                            · exact absurd (Nat.mod_eq_zero_of_dvd hod) ht63
                            · refine J_iconst (pc := 136) (v := nI 1) dX8_isSoundNow_136 (by decide) ?_
                              refine J_goto (pc := 137) (tgt := 141) dX8_isSoundNow_137 (by decide) ?_
                              refine J_istore (pc := 141) dX8_isSoundNow_141 (by decide) rfl ?_
                              show J X mX8_isSoundNow d (kc - 13) (ks - 2054) 143 [some (.ref 19), some (.int (nI (cd n (Gg n (gS (mW n mv) 63 6))))), some (.int (nI y2)), some (.int (nI (cd n (fun x => (Gg n (gS (mW n mv) 63 6)) x ∧ sg n x = nI 1)))), some (.int (nI 1)), some (.int (nI c5))] [] w11 _
                              refine J_iincN (pc := 143) (b := 1) dX8_isSoundNow_143 rfl (by decide) (by decide) rfl ?_
                              show J X mX8_isSoundNow d (kc - 13) (ks - 2054) 146 [some (.ref 19), some (.int (nI (cd n (Gg n (gS (mW n mv) 63 6))))), some (.int (nI y2)), some (.int (nI (cd n (fun x => (Gg n (gS (mW n mv) 63 6)) x ∧ sg n x = nI 1)))), some (.int (nI 1)), some (.int (nI (c5 + 1)))] [] w11 _
                              refine J_goto (pc := 146) (tgt := 95) dX8_isSoundNow_146 (by decide) ?_
                              exact J_sub (L' := [some (.ref 19), some (.int (nI (cd n (Gg n (gS (mW n mv) 63 6))))), some (.int (nI y2)), some (.int (nI (cd n (fun x => (Gg n (gS (mW n mv) 63 6)) x ∧ sg n x = nI 1)))), some (.int (nI 1)), some (.int (nI (c5 + 1)))]) ⟨rfl, ⟨rfl, ⟨rfl, ⟨rfl, ⟨rfl, ⟨rfl, trivial⟩⟩⟩⟩⟩⟩ (ihlp95_47 1 (c5 + 1) (by first | rfl | exact absurd (gen63 hn2 hy0 (by omega)) (by assumption)) (by first | assumption | omega) (by omega))
                  exact J_sub (L' := [some (.ref 19), some (.int (nI (cd n (Gg n (gS (mW n mv) 63 6))))), some (.int (nI y2)), some (.int (nI (cd n (fun x => (Gg n (gS (mW n mv) 63 6)) x ∧ sg n x = nI 1)))), some (.int (nI 1)), some (.int (nI 0))]) ⟨rfl, ⟨rfl, ⟨rfl, ⟨rfl, ⟨rfl, ⟨rfl, trivial⟩⟩⟩⟩⟩⟩ (lp95_47 _ 1 0 (by rfl) (by first | assumption | omega) (Nat.lt_succ_self _))
      · refine J_iload_n (pc := 19) dX8_isSoundNow_19 rfl rfl ?_
        refine J_aload_n (pc := 20) dX8_isSoundNow_20 rfl rfl rfl ?_
        refine J_bipush (pc := 21) (v := nI 63) dX8_isSoundNow_21 (by decide) ?_
        refine J_iconst (pc := 23) (v := nI 0) dX8_isSoundNow_23 (by decide) ?_
        refine J_iload_n (pc := 24) dX8_isSoundNow_24 rfl rfl ?_
        refine J_callV0 (pc := 25) (M := mX8_isSoundNow) (as := [.int (nI 63), .int (nI 0), .int (nI c3)]) dX8_isSoundNow_25 fw_X8_reachNow fl_X8_181 fm_X8_reachNow fe_X8_reachNow h19_8 (by decide) rfl rfl rfl (c_X8_reachNow_atkx hs (d := d - 1) (Nat.le_trans (by decide) hdm) (w := w3) (n := n) (mv := mv) (rw := rw_11) (nx := nx1) (b := b1) (bt := bt1) (kn := kn1) (en := en1) (dn := dn) (rf := rf) (kk := kk) (th := th) ⟨h19_8, h20_8, h21_8, h22_8, hb_8, hbl_8, hb3_8⟩ hn1 hn2 gm gr6 hgnx1 63 0 c3 (by first | assumption | omega) (by first | assumption | omega) (by exact ⟨hkn, hBXE⟩) (by first | assumption | omega) (by first | assumption | omega) (kc := 0) (ks := 0)) hdp (st := [.int (nI y2)]) (Nat.le_of_ble_eq_true rfl) rfl (kr_I fun v65 w65 hv65 hw65 => ?_) kx_I
        obtain ⟨rw65, hR65, hFc65, hgrw65⟩ := hw65
        obtain ⟨h19_65, h20_65, h21_65, h22_65, hbb_65, hbl_65, hb3_65⟩ := hR65
        have hF65 := hF5.tr hFc65
        subst hv65
        refine J_callS0 (pc := 28) (M := mX8_isSoundNow) (as := [.int (nI (sBv (RP n (Gg n (gS (mW n mv) 63 6)) (fun j => mv (0 * 7 + j)) c3) n))]) dX8_isSoundNow_28 fw_J6_bitCount_0f7a4 fl_X8_96 fs_J6_bitCount_0f7a4 rfl (c_J6_bitCount_0f7a4_atx hs (d := d - 1) (Nat.le_trans (by decide) hdm) (w := w65) (nI (sBv (RP n (Gg n (gS (mW n mv) 63 6)) (fun j => mv (0 * 7 + j)) c3) n)) (kc := 0) (ks := 0)) hdp (st := [.int (nI y2)]) (Nat.le_of_ble_eq_true rfl) rfl (kr_P fun v66 hv66 => ?_) kx_I
        subst hv66
        have hcs := cnt_sBv (P := RP n (Gg n (gS (mW n mv) 63 6)) (fun j => mv (0 * 7 + j)) c3) hn2
        refine J_imulN (pc := 31) dX8_isSoundNow_31 ?_
        refine J_istore_n (pc := 32) dX8_isSoundNow_32 rfl (by decide) rfl ?_
        show J X mX8_isSoundNow d (kc - 13) (ks - 2054) 33 [some (.ref 19), some (.int (nI (cd n (Gg n (gS (mW n mv) 63 6))))), some (.int (nI (y2 * (pc32 (nI (sBv (RP n (Gg n (gS (mW n mv) 63 6)) (fun j => mv (0 * 7 + j)) c3) n)))))), some (.int (nI c3)), none, none] [] w65 _
        refine J_iincN (pc := 33) (b := 1) dX8_isSoundNow_33 rfl (by decide) (by decide) rfl ?_
        show J X mX8_isSoundNow d (kc - 13) (ks - 2054) 36 [some (.ref 19), some (.int (nI (cd n (Gg n (gS (mW n mv) 63 6))))), some (.int (nI (y2 * (pc32 (nI (sBv (RP n (Gg n (gS (mW n mv) 63 6)) (fun j => mv (0 * 7 + j)) c3) n)))))), some (.int (nI (c3 + 1))), none, none] [] w65 _
        refine J_goto (pc := 36) (tgt := 11) dX8_isSoundNow_36 (by decide) ?_
        exact J_sub (L' := [some (.ref 19), some (.int (nI (cd n (Gg n (gS (mW n mv) 63 6))))), some (.int (nI (y2 * (pc32 (nI (sBv (RP n (Gg n (gS (mW n mv) 63 6)) (fun j => mv (0 * 7 + j)) c3) n)))))), some (.int (nI (c3 + 1))), none, none]) ⟨rfl, ⟨rfl, ⟨rfl, ⟨rfl, trivial⟩⟩⟩⟩ (ihlp11_2 w65 rw65 (y2 * (pc32 (nI (sBv (RP n (Gg n (gS (mW n mv) 63 6)) (fun j => mv (0 * 7 + j)) c3) n)))) (c3 + 1) ⟨h19_65, h20_65, h21_65, h22_65, hbb_65, hbl_65, hb3_65⟩ hF65 hgrw65 (by rw [hv11_0, hcs]; rfl) (by first | assumption | omega) (by omega))
  exact J_sub (L' := [some (.ref 19), some (.int (nI (cd n (Gg n (gS (mW n mv) 63 6))))), some (.int (nI 1)), some (.int (nI 0)), none, none]) ⟨rfl, ⟨rfl, ⟨rfl, ⟨rfl, trivial⟩⟩⟩⟩ (lp11_2 _ w1 rw1 1 0 ⟨h19_1, h20_1, h21_1, h22_1, hbb_1, hbl_1, hb3_1⟩ hF1 hgrw1 (by rfl) (by first | assumption | omega) (Nat.lt_succ_self _))
set_option maxRecDepth 100000 in
set_option maxHeartbeats 40000000 in
theorem c_X8_isSound_ate {X : jX} (hs : X.1.stackTraces = false) {d : Nat} (hd : 11 ≤ d) {n : Nat} {mv rw nx : Nat → Nat} {b : Nat} {bt : List Int32} {kn en dn rf kk th : Int32} {w : List jC} (hR : RM n mv rw nx b bt kn en dn rf kk th w) (hn1 : 2 ≤ n) (hn2 : n ≤ 7) (gm : ∀ i, mv i < 7) (gr : ∀ i, rw i < 7) (gx : ∀ i, nx i < 7) (hy0 : PM n mv) (hy1 : KX n mv kn bt en) {kc ks : Nat} (hkc : 15 ≤ kc) (hks : 6428 ≤ ks) : jMet X mX8_isSound d kc ks [.ref 19] w (pJ (fun v w' => ∃ (rw' : Nat → Nat), ∃ (nx' : Nat → Nat), ∃ (b' : Nat), ∃ (bt' : List Int32), ∃ (kn' : Int32), ∃ (en' : Int32), ∃ (th' : Int32), RM n mv rw' nx' b' bt' kn' en' dn rf kk th' w' ∧ FR b b' w w' ∧ (∀ i, rw' i < 7) ∧ (∀ i, nx' i < 7) ∧ KX n mv kn' bt' en' ∧ (th' = nI 0 ∧ v = nI 1))) := by
  refine jMet_of hs (by decide +kernel) (Nat.le_of_ble_eq_true rfl) (L := [some (.ref 19)]) rfl ?_
  have hdm : 10 ≤ d - 1 := by omega
  have hdp : d - 1 + 1 ≤ d := by omega
  have hfc := fc_7 hn2
  have hfp := fc_pos n
  obtain ⟨h19, h20, h21, h22, hbb, hbl, hb3⟩ := hR
  have hF : FR b b w w := FR.rf
  refine J_aload_n (pc := 0) dX8_isSound_0 rfl rfl rfl ?_
  refine J_iconst (pc := 1) (v := nI 0) dX8_isSound_1 (by decide) ?_
  refine J_putW (pc := 2) (k := 10) dX8_isSound_2 kC9 (by decide) ff_X8_32 (Or.inl rfl) ⟨rfl, rfl⟩ h19 (by show 10 < 11; decide) (fun w1 hln1 hw1 hne1 => ?_)
  have h19_1 : w1[19]? = some (.inr (9, [.int (nI n), .ref 20, .ref 21, .ref 22, .ref b, .int kn, .int en, .int dn, .int rf, .int kk, .int (nI 0)])) := hw1
  have h20_1 := (hne1 20 (by decide)).trans h20
  have h21_1 := (hne1 21 (by decide)).trans h21
  have h22_1 := (hne1 22 (by decide)).trans h22
  have hb_1 := (hne1 _ (Nat.ne_of_gt (Nat.lt_of_lt_of_le (by decide) hb3))).trans hbb
  have hF1 := hF.st hln1 hne1 (Or.inl (by decide))
  refine J_aload_n (pc := 5) dX8_isSound_5 rfl rfl rfl ?_
  refine J_callV (pc := 6) (M := mX8_isSound) (as := []) dX8_isSound_6 fw_X8_isSoundNow fl_X8_233 fm_X8_isSoundNow fe_X8_isSoundNow h19_1 (by decide) rfl rfl rfl (c_X8_isSoundNow_atx hs (d := d - 1) (Nat.le_trans (by decide) hdm) (w := w1) (n := n) (mv := mv) (rw := rw) (nx := nx) (b := b) (bt := bt) (kn := kn) (en := en) (dn := dn) (rf := rf) (kk := kk) (th := nI 0) ⟨h19_1, h20_1, h21_1, h22_1, hb_1, hbl, hb3⟩ hn1 hn2 gm gr gx (by first | assumption | omega) (by first | assumption | omega) (kc := 15) (ks := 6428) (Nat.le_refl _) (Nat.le_refl _)) hdp (by omega) (by omega) (st := []) (Nat.le_of_ble_eq_true rfl) rfl (kr_I fun v2 w2 hv2 hw2 => ?_) kx_I
  obtain ⟨rw2, nx2, b2, bt2, kn2, en2, hR2, hFc2, hgrw2, hgnx2, hp2_0⟩ := hw2
  obtain ⟨h19_2, h20_2, h21_2, h22_2, hbb_2, hbl_2, hb3_2⟩ := hR2
  have qd2 := hFc2.2.1
  have hF2 := hF1.tr hFc2
  subst hv2
  exact J_zret (pc := 9) dX8_isSound_9 rfl (nar_b (by first | decide | omega)) (⟨rw2, nx2, b2, bt2, kn2, en2, nI 0, ⟨h19_2, h20_2, h21_2, h22_2, hbb_2, hbl_2, hb3_2⟩, hF2, hgrw2, hgnx2, (by first | assumption | exact KX_i (by assumption) (by assumption) (by first | rfl | assumption)), (by exact ⟨rfl, rfl⟩)⟩)
