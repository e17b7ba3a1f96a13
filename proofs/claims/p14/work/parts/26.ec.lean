section
/-! contracts of the reference: rspec4 -/
set_option maxRecDepth 100000 in
set_option maxHeartbeats 4000000 in
theorem c_X8_reachNow_atk {X : jX} (hs : X.1.stackTraces = false) {d : Nat} (hd : 4 ≤ d) {n : Nat} {mv rw nx : Nat → Nat} {b : Nat} {bt : List Int32} {kn en dn rf kk th : Int32} {w : List jC} (hR : RM n mv rw nx b bt kn en dn rf kk th w) (hn1 : 2 ≤ n) (hn2 : n ≤ 7) (gm : ∀ i, mv i < 7) (gr : ∀ i, rw i < 7) (gx : ∀ i, nx i < 7) (s : Nat) (a : Nat) (c : Nat) (hy0 : s < 64) (hy1 : kn = nI s) (hy2 : BX n mv s bt) (hy3 : PM n mv) (hy4 : a < 6) (hy5 : c < 7) {kc ks : Nat} : jMet X mX8_reachNow d kc ks [.ref 19, .int (nI s), .int (nI a), .int (nI c)] w (pI (fun _ => True) (fun w' => ∃ (rw' : Nat → Nat), RM n mv rw' nx b bt kn en dn rf kk th w' ∧ FR b b w w' ∧ (∀ i, rw' i < 7))) := by
  refine jMet_of hs (by decide +kernel) (Nat.le_of_ble_eq_true rfl) (L := [some (.ref 19), some (.int (nI s)), some (.int (nI a)), some (.int (nI c)), none, none, none, none]) rfl ?_
  have hdm : 3 ≤ d - 1 := by omega
  have hdp : d - 1 + 1 ≤ d := by omega
  have hfc := fc_7 hn2
  have hfp := fc_pos n
  obtain ⟨h19, h20, h21, h22, hbb, hbl, hb3⟩ := hR
  have hF : FR b b w w := FR.rf
  refine J_aload_n (pc := 0) dX8_reachNow_0 rfl rfl rfl ?_
  refine J_iload_n (pc := 1) dX8_reachNow_1 rfl rfl ?_
  refine J_callV0 (pc := 2) (M := mX8_reachNow) (as := [.int (nI s)]) dX8_reachNow_2 fw_X8_group fl_X8_99 fm_X8_group fe_X8_group h19 (by decide) rfl rfl rfl (c_X8_group_atk hs (d := d - 1) (Nat.le_trans (by decide) hdm) (w := w) (n := n) (mv := mv) (rw := rw) (nx := nx) (b := b) (bt := bt) (kn := kn) (en := en) (dn := dn) (rf := rf) (kk := kk) (th := th) ⟨h19, h20, h21, h22, hbb, hbl, hb3⟩ hn1 hn2 gm gr gx s (by first | assumption | omega) (by first | assumption | omega) (kc := 0) (ks := 0)) hdp (st := []) (Nat.le_of_ble_eq_true rfl) rfl (kr_V fun w1 hw1 => ?_) kx_V
  obtain rfl := hw1.symm
  refine J_iconst (pc := 5) (v := nI 0) dX8_reachNow_5 (by decide) ?_
  refine J_istore (pc := 6) dX8_reachNow_6 (by decide) rfl ?_
  show J X mX8_reachNow d kc ks 8 [some (.ref 19), some (.int (nI s)), some (.int (nI a)), some (.int (nI c)), some (.int (nI 0)), none, none, none] [] w _
  refine J_aload_n (pc := 8) dX8_reachNow_8 rfl rfl rfl ?_
  refine J_iconst (pc := 9) (v := nI 0) dX8_reachNow_9 (by decide) ?_
  refine J_callV0 (pc := 10) (M := mX8_reachNow) (as := [.int (nI 0)]) dX8_reachNow_10 fw_X8_from fl_X8_137 fm_X8_from fe_X8_from h19 (by decide) rfl rfl rfl (c_X8_from hs (d := d - 1) (Nat.le_trans (by decide) hdm) (w := w) (n := n) (mv := mv) (rw := rw) (nx := nx) (b := b) (bt := bt) (kn := kn) (en := en) (dn := dn) (rf := rf) (kk := kk) (th := th) ⟨h19, h20, h21, h22, hbb, hbl, hb3⟩ hn1 hn2 gm gr gx 0 (by first | assumption | omega) (kc := 0) (ks := 0)) hdp (st := []) (Nat.le_of_ble_eq_true rfl) rfl (kr_P fun v2 hv2 => ?_) kx_I
  rcases hv2 with ⟨rfl, hk2_0⟩ | ⟨q2, rfl, hk2_0, hk2_1, hk2_2, hk2_3⟩
  · refine J_istore (pc := 13) dX8_reachNow_13 (by decide) rfl ?_
    show J X mX8_reachNow d kc ks 15 [some (.ref 19), some (.int (nI s)), some (.int (nI a)), some (.int (nI c)), some (.int (nI 0)), some (.int (-1)), none, none] [] w _
    have lp15_3 : ∀ (fuel : Nat) (w4 : List jC) (rw_15 : Nat → Nat) (z4 : Int32) (c5 : Nat), (RM n mv rw_15 nx b bt kn en dn rf kk th w4) → (FR b b w w4) → (∀ i, rw_15 i < 7) → (c5 ≤ fc n) → (mu (fc n) c5 < fuel) → J X mX8_reachNow d kc ks 15 [some (.ref 19), some (.int (nI s)), some (.int (nI a)), some (.int (nI c)), some (.int z4), some (.int (nI c5 + Int32.ofInt (-1))), none, none] [] w4 (pI (fun _ => True) (fun w' => ∃ (rw' : Nat → Nat), RM n mv rw' nx b bt kn en dn rf kk th w' ∧ FR b b w w' ∧ (∀ i, rw' i < 7))) := by
      intro fuellp15_3
      induction fuellp15_3 with
      | zero => intros; omega
      | succ fuellp15_3 ihlp15_3 =>
        intro w4 rw_15 z4 c5 hR5 hF6 gr7 hv15_0 hf8
        obtain ⟨h19_9, h20_9, h21_9, h22_9, hb_9, hbl_9, hb3_9⟩ := hR5
        refine J_iload (pc := 15) dX8_reachNow_15 rfl ?_
        refine J_if_ltM (pc := 17) (tgt := 116) dX8_reachNow_17 (by decide) (by omega) (fun ht10 => ?_) (fun hf11 => ?_)
        · refine J_iload (pc := 116) dX8_reachNow_116 rfl ?_
          exact J_iret (pc := 118) dX8_reachNow_118 rfl ⟨trivial, ⟨rw_15, ⟨h19_9, h20_9, h21_9, h22_9, hb_9, hbl_9, hb3_9⟩, hF6, gr7⟩⟩
        · rw [nI_m1 hf11]
          refine J_aload_n (pc := 20) dX8_reachNow_20 rfl rfl rfl ?_
          refine J_iload (pc := 21) dX8_reachNow_21 rfl ?_
          refine J_aload_n (pc := 23) dX8_reachNow_23 rfl rfl rfl ?_
          refine J_get (pc := 24) (k := 2) dX8_reachNow_24 kC9 (by decide) ff_X8_17 h19_9 rfl ?_
          refine J_callV0 (pc := 27) (M := mX8_reachNow) (as := [.int (nI (c5 - 1)), .ref 21]) dX8_reachNow_27 fw_X8_rowOf fl_X8_78 fm_X8_rowOf fe_X8_rowOf h19_9 (by decide) rfl rfl rfl (c_X8_rowOf hs (d := d - 1) (Nat.le_trans (by decide) hdm) (w := w4) (n := n) (mv := mv) (rw := rw_15) (nx := nx) (b := b) (bt := bt) (kn := kn) (en := en) (dn := dn) (rf := rf) (kk := kk) (th := th) ⟨h19_9, h20_9, h21_9, h22_9, hb_9, hbl_9, hb3_9⟩ hn1 hn2 gm gr7 gx (c5 - 1) (by first | assumption | omega) (kc := 0) (ks := 0)) hdp (st := []) (Nat.le_of_ble_eq_true rfl) rfl (kr_V fun w12 hw12 => ?_) kx_V
          obtain ⟨rw12, hR12, hFc12, hgrw12, hp12_0⟩ := hw12
          obtain ⟨h19_12, h20_12, h21_12, h22_12, hbb_12, hbl_12, hb3_12⟩ := hR12
          have hF12 := hF6.tr hFc12
          refine J_iconst (pc := 30) (v := nI 1) dX8_reachNow_30 (by decide) ?_
          refine J_istore (pc := 31) dX8_reachNow_31 (by decide) rfl ?_
          show J X mX8_reachNow d kc ks 33 [some (.ref 19), some (.int (nI s)), some (.int (nI a)), some (.int (nI c)), some (.int z4), some (.int (nI (c5 - 1))), some (.int (nI 1)), none] [] w12 _
          refine J_iconst (pc := 33) (v := nI 0) dX8_reachNow_33 (by decide) ?_
          refine J_istore (pc := 34) dX8_reachNow_34 (by decide) rfl ?_
          show J X mX8_reachNow d kc ks 36 [some (.ref 19), some (.int (nI s)), some (.int (nI a)), some (.int (nI c)), some (.int z4), some (.int (nI (c5 - 1))), some (.int (nI 1)), some (.int (nI 0))] [] w12 _
          have lp36_13 : ∀ (fuel : Nat) (y6 : Nat) (c7 : Nat), (y6 < 2) → (c7 ≤ c) → (c - c7 < fuel) → J X mX8_reachNow d kc ks 36 [some (.ref 19), some (.int (nI s)), some (.int (nI a)), some (.int (nI c)), some (.int z4), some (.int (nI (c5 - 1))), some (.int (nI y6)), some (.int (nI c7))] [] w12 (pI (fun _ => True) (fun w' => ∃ (rw' : Nat → Nat), RM n mv rw' nx b bt kn en dn rf kk th w' ∧ FR b b w w' ∧ (∀ i, rw' i < 7))) := by
            intro fuellp36_13
            induction fuellp36_13 with
            | zero => intros; omega
            | succ fuellp36_13 ihlp36_13 =>
              intro y6 c7 hv36_0 hv36_1 hf14
              refine J_iload (pc := 36) dX8_reachNow_36 rfl ?_
              refine J_iload_n (pc := 38) dX8_reachNow_38 rfl rfl ?_
              refine J_icmp_geN (pc := 39) (tgt := 80) dX8_reachNow_39 (by decide) (by omega) (by omega) (fun ht15 => ?_) (fun hf16 => ?_)
              · refine J_iload (pc := 80) dX8_reachNow_80 rfl ?_
                refine J_if_eqN (pc := 82) (tgt := 103) dX8_reachNow_82 (by decide) (by omega) (fun ht17 => ?_) (fun hf18 => ?_)
                · refine J_aload_n (pc := 103) dX8_reachNow_103 rfl rfl rfl ?_
                  refine J_iload (pc := 104) dX8_reachNow_104 rfl ?_
                  refine J_iconst (pc := 106) (v := nI 1) dX8_reachNow_106 (by decide) ?_
                  refine J_iaddN (pc := 107) dX8_reachNow_107 ?_
                  refine J_callV0 (pc := 108) (M := mX8_reachNow) (as := [.int (nI ((c5 - 1) + 1))]) dX8_reachNow_108 fw_X8_from fl_X8_137 fm_X8_from fe_X8_from h19_12 (by decide) rfl rfl rfl (c_X8_from hs (d := d - 1) (Nat.le_trans (by decide) hdm) (w := w12) (n := n) (mv := mv) (rw := rw12) (nx := nx) (b := b) (bt := bt) (kn := kn) (en := en) (dn := dn) (rf := rf) (kk := kk) (th := th) ⟨h19_12, h20_12, h21_12, h22_12, hbb_12, hbl_12, hb3_12⟩ hn1 hn2 gm hgrw12 gx ((c5 - 1) + 1) (by first | assumption | omega) (kc := 0) (ks := 0)) hdp (st := []) (Nat.le_of_ble_eq_true rfl) rfl (kr_P fun v19 hv19 => ?_) kx_I
                  rcases hv19 with ⟨rfl, hk19_0⟩ | ⟨q19, rfl, hk19_0, hk19_1, hk19_2, hk19_3⟩
                  · refine J_istore (pc := 111) dX8_reachNow_111 (by decide) rfl ?_
                    show J X mX8_reachNow d kc ks 113 [some (.ref 19), some (.int (nI s)), some (.int (nI a)), some (.int (nI c)), some (.int z4), some (.int (-1)), some (.int (nI y6)), some (.int (nI c7))] [] w12 _
                    refine J_goto (pc := 113) (tgt := 15) dX8_reachNow_113 (by decide) ?_
                    exact J_sub (L' := [some (.ref 19), some (.int (nI s)), some (.int (nI a)), some (.int (nI c)), some (.int z4), some (.int (nI 0 + Int32.ofInt (-1))), none, none]) ⟨rfl, ⟨rfl, ⟨rfl, ⟨rfl, ⟨rfl, ⟨(congrArg (fun z => some (Value.int z)) (by decide : (-1 : Int32) = nI 0 + Int32.ofInt (-1))), trivial⟩⟩⟩⟩⟩⟩ (ihlp15_3 w12 rw12 z4 0 ⟨h19_12, h20_12, h21_12, h22_12, hbb_12, hbl_12, hb3_12⟩ hF12 hgrw12 (by first | assumption | omega) (by exact mu_dec (by assumption) (by omega) (by omega) (by omega)))
                  · refine J_istore (pc := 111) dX8_reachNow_111 (by decide) rfl ?_
                    show J X mX8_reachNow d kc ks 113 [some (.ref 19), some (.int (nI s)), some (.int (nI a)), some (.int (nI c)), some (.int z4), some (.int (nI q19)), some (.int (nI y6)), some (.int (nI c7))] [] w12 _
                    refine J_goto (pc := 113) (tgt := 15) dX8_reachNow_113 (by decide) ?_
                    exact J_sub (L' := [some (.ref 19), some (.int (nI s)), some (.int (nI a)), some (.int (nI c)), some (.int z4), some (.int (nI (q19 + 1) + Int32.ofInt (-1))), none, none]) ⟨rfl, ⟨rfl, ⟨rfl, ⟨rfl, ⟨rfl, ⟨(congrArg (fun z => some (Value.int z)) (nI_n1 q19)), trivial⟩⟩⟩⟩⟩⟩ (ihlp15_3 w12 rw12 z4 (q19 + 1) ⟨h19_12, h20_12, h21_12, h22_12, hbb_12, hbl_12, hb3_12⟩ hF12 hgrw12 (by first | assumption | omega) (by exact mu_dec (by assumption) (by omega) (by omega) (by omega)))
                · refine J_iload (pc := 85) dX8_reachNow_85 rfl ?_
                  refine J_iconst (pc := 87) (v := nI 1) dX8_reachNow_87 (by decide) ?_
                  refine J_aload_n (pc := 88) dX8_reachNow_88 rfl rfl rfl ?_
                  refine J_get (pc := 89) (k := 2) dX8_reachNow_89 kC9 (by decide) ff_X8_17 h19_12 rfl ?_
                  refine J_aload_n (pc := 92) dX8_reachNow_92 rfl rfl rfl ?_
                  refine J_iload_n (pc := 93) dX8_reachNow_93 rfl rfl ?_
                  refine J_iload_n (pc := 94) dX8_reachNow_94 rfl rfl ?_
                  refine J_callV0 (pc := 95) (M := mX8_reachNow) (as := [.int (nI a), .int (nI c)]) dX8_reachNow_95 fw_X8_at fl_X8_82 fm_X8_at fe_X8_at h19_12 (by decide) rfl rfl rfl (c_X8_at hs (d := d - 1) (Nat.le_trans (by decide) hdm) (w := w12) (n := n) (mv := mv) (rw := rw12) (nx := nx) (b := b) (bt := bt) (kn := kn) (en := en) (dn := dn) (rf := rf) (kk := kk) (th := th) ⟨h19_12, h20_12, h21_12, h22_12, hbb_12, hbl_12, hb3_12⟩ hn1 hn2 gm hgrw12 gx a c (by first | assumption | omega) (by first | assumption | omega) (kc := 0) (ks := 0)) hdp (st := [.ref 21, .int (nI 1), .int z4]) (Nat.le_of_ble_eq_true rfl) rfl (kr_P fun v20 hv20 => ?_) kx_I
                  subst hv20
                  have hq21 := gm (a * 7 + c)
                  refine J_ialdF (pc := 98) dX8_reachNow_98 h21_12 (by omega) (by decide) ?_
                  have hq22 := hgrw12 (mv (a * 7 + c))
                  refine J_ishl (pc := 99) dX8_reachNow_99 (J_absI fun x23 => ?_)
                  refine J_ior (pc := 100) dX8_reachNow_100 (J_absI fun x24 => ?_)
                  refine J_istore (pc := 101) dX8_reachNow_101 (by decide) rfl ?_
                  show J X mX8_reachNow d kc ks 103 [some (.ref 19), some (.int (nI s)), some (.int (nI a)), some (.int (nI c)), some (.int x24), some (.int (nI (c5 - 1))), some (.int (nI y6)), some (.int (nI c7))] [] w12 _
                  refine J_aload_n (pc := 103) dX8_reachNow_103 rfl rfl rfl ?_
                  refine J_iload (pc := 104) dX8_reachNow_104 rfl ?_
                  refine J_iconst (pc := 106) (v := nI 1) dX8_reachNow_106 (by decide) ?_
                  refine J_iaddN (pc := 107) dX8_reachNow_107 ?_
                  refine J_callV0 (pc := 108) (M := mX8_reachNow) (as := [.int (nI ((c5 - 1) + 1))]) dX8_reachNow_108 fw_X8_from fl_X8_137 fm_X8_from fe_X8_from h19_12 (by decide) rfl rfl rfl (c_X8_from hs (d := d - 1) (Nat.le_trans (by decide) hdm) (w := w12) (n := n) (mv := mv) (rw := rw12) (nx := nx) (b := b) (bt := bt) (kn := kn) (en := en) (dn := dn) (rf := rf) (kk := kk) (th := th) ⟨h19_12, h20_12, h21_12, h22_12, hbb_12, hbl_12, hb3_12⟩ hn1 hn2 gm hgrw12 gx ((c5 - 1) + 1) (by first | assumption | omega) (kc := 0) (ks := 0)) hdp (st := []) (Nat.le_of_ble_eq_true rfl) rfl (kr_P fun v25 hv25 => ?_) kx_I
                  rcases hv25 with ⟨rfl, hk25_0⟩ | ⟨q25, rfl, hk25_0, hk25_1, hk25_2, hk25_3⟩
                  · refine J_istore (pc := 111) dX8_reachNow_111 (by decide) rfl ?_
                    show J X mX8_reachNow d kc ks 113 [some (.ref 19), some (.int (nI s)), some (.int (nI a)), some (.int (nI c)), some (.int x24), some (.int (-1)), some (.int (nI y6)), some (.int (nI c7))] [] w12 _
                    refine J_goto (pc := 113) (tgt := 15) dX8_reachNow_113 (by decide) ?_
                    exact J_sub (L' := [some (.ref 19), some (.int (nI s)), some (.int (nI a)), some (.int (nI c)), some (.int x24), some (.int (nI 0 + Int32.ofInt (-1))), none, none]) ⟨rfl, ⟨rfl, ⟨rfl, ⟨rfl, ⟨rfl, ⟨(congrArg (fun z => some (Value.int z)) (by decide : (-1 : Int32) = nI 0 + Int32.ofInt (-1))), trivial⟩⟩⟩⟩⟩⟩ (ihlp15_3 w12 rw12 x24 0 ⟨h19_12, h20_12, h21_12, h22_12, hbb_12, hbl_12, hb3_12⟩ hF12 hgrw12 (by first | assumption | omega) (by exact mu_dec (by assumption) (by omega) (by omega) (by omega)))
                  · refine J_istore (pc := 111) dX8_reachNow_111 (by decide) rfl ?_
                    show J X mX8_reachNow d kc ks 113 [some (.ref 19), some (.int (nI s)), some (.int (nI a)), some (.int (nI c)), some (.int x24), some (.int (nI q25)), some (.int (nI y6)), some (.int (nI c7))] [] w12 _
                    refine J_goto (pc := 113) (tgt := 15) dX8_reachNow_113 (by decide) ?_
                    exact J_sub (L' := [some (.ref 19), some (.int (nI s)), some (.int (nI a)), some (.int (nI c)), some (.int x24), some (.int (nI (q25 + 1) + Int32.ofInt (-1))), none, none]) ⟨rfl, ⟨rfl, ⟨rfl, ⟨rfl, ⟨rfl, ⟨(congrArg (fun z => some (Value.int z)) (nI_n1 q25)), trivial⟩⟩⟩⟩⟩⟩ (ihlp15_3 w12 rw12 x24 (q25 + 1) ⟨h19_12, h20_12, h21_12, h22_12, hbb_12, hbl_12, hb3_12⟩ hF12 hgrw12 (by first | assumption | omega) (by exact mu_dec (by assumption) (by omega) (by omega) (by omega)))
              · refine J_iload (pc := 42) dX8_reachNow_42 rfl ?_
                refine J_aload_n (pc := 44) dX8_reachNow_44 rfl rfl rfl ?_
                refine J_get (pc := 45) (k := 2) dX8_reachNow_45 kC9 (by decide) ff_X8_17 h19_12 rfl ?_
                refine J_aload_n (pc := 48) dX8_reachNow_48 rfl rfl rfl ?_
                refine J_iload_n (pc := 49) dX8_reachNow_49 rfl rfl ?_
                refine J_iload (pc := 50) dX8_reachNow_50 rfl ?_
                refine J_callV0 (pc := 52) (M := mX8_reachNow) (as := [.int (nI a), .int (nI c7)]) dX8_reachNow_52 fw_X8_at fl_X8_82 fm_X8_at fe_X8_at h19_12 (by decide) rfl rfl rfl (c_X8_at hs (d := d - 1) (Nat.le_trans (by decide) hdm) (w := w12) (n := n) (mv := mv) (rw := rw12) (nx := nx) (b := b) (bt := bt) (kn := kn) (en := en) (dn := dn) (rf := rf) (kk := kk) (th := th) ⟨h19_12, h20_12, h21_12, h22_12, hbb_12, hbl_12, hb3_12⟩ hn1 hn2 gm hgrw12 gx a c7 (by first | assumption | omega) (by first | assumption | omega) (kc := 0) (ks := 0)) hdp (st := [.ref 21, .int (nI y6)]) (Nat.le_of_ble_eq_true rfl) rfl (kr_P fun v26 hv26 => ?_) kx_I
                subst hv26
                have hq27 := gm (a * 7 + c7)
                refine J_ialdF (pc := 55) dX8_reachNow_55 h21_12 (by omega) (by decide) ?_
                have hq28 := hgrw12 (mv (a * 7 + c7))
                refine J_aload_n (pc := 56) dX8_reachNow_56 rfl rfl rfl ?_
                refine J_iload_n (pc := 57) dX8_reachNow_57 rfl rfl ?_
                refine J_iload (pc := 58) dX8_reachNow_58 rfl ?_
                refine J_callV0 (pc := 60) (M := mX8_reachNow) (as := [.int (nI a), .int (nI c7)]) dX8_reachNow_60 fw_X8_at fl_X8_82 fm_X8_at fe_X8_at h19_12 (by decide) rfl rfl rfl (c_X8_at hs (d := d - 1) (Nat.le_trans (by decide) hdm) (w := w12) (n := n) (mv := mv) (rw := rw12) (nx := nx) (b := b) (bt := bt) (kn := kn) (en := en) (dn := dn) (rf := rf) (kk := kk) (th := th) ⟨h19_12, h20_12, h21_12, h22_12, hbb_12, hbl_12, hb3_12⟩ hn1 hn2 gm hgrw12 gx a c7 (by first | assumption | omega) (by first | assumption | omega) (kc := 0) (ks := 0)) hdp (st := [.int (nI (rw12 (mv (a * 7 + c7)))), .int (nI y6)]) (Nat.le_of_ble_eq_true rfl) rfl (kr_P fun v29 hv29 => ?_) kx_I
                subst hv29
                have hq30 := gm (a * 7 + c7)
                refine J_icmp_neN (pc := 63) (tgt := 70) dX8_reachNow_63 (by decide) (by omega) (by omega) (fun ht31 => ?_) (fun hf32 => ?_)
                · refine J_iconst (pc := 70) (v := nI 0) dX8_reachNow_70 (by decide) ?_
                  refine J_iand1 (pc := 71) dX8_reachNow_71 (by omega) (by omega) ?_
                  refine J_istore (pc := 72) dX8_reachNow_72 (by decide) rfl ?_
                  show J X mX8_reachNow d kc ks 74 [some (.ref 19), some (.int (nI s)), some (.int (nI a)), some (.int (nI c)), some (.int z4), some (.int (nI (c5 - 1))), some (.int (nI (y6 * 0))), some (.int (nI c7))] [] w12 _
                  refine J_iincN (pc := 74) (b := 1) dX8_reachNow_74 rfl (by decide) (by decide) rfl ?_
                  show J X mX8_reachNow d kc ks 77 [some (.ref 19), some (.int (nI s)), some (.int (nI a)), some (.int (nI c)), some (.int z4), some (.int (nI (c5 - 1))), some (.int (nI (y6 * 0))), some (.int (nI (c7 + 1)))] [] w12 _
                  refine J_goto (pc := 77) (tgt := 36) dX8_reachNow_77 (by decide) ?_
                  exact J_sub (L' := [some (.ref 19), some (.int (nI s)), some (.int (nI a)), some (.int (nI c)), some (.int z4), some (.int (nI (c5 - 1))), some (.int (nI (y6 * 0))), some (.int (nI (c7 + 1)))]) ⟨rfl, ⟨rfl, ⟨rfl, ⟨rfl, ⟨rfl, ⟨rfl, ⟨rfl, ⟨rfl, trivial⟩⟩⟩⟩⟩⟩⟩⟩ (ihlp36_13 (y6 * 0) (c7 + 1) (by first | assumption | omega) (by first | assumption | omega) (by omega))
                · refine J_iconst (pc := 66) (v := nI 1) dX8_reachNow_66 (by decide) ?_
                  refine J_goto (pc := 67) (tgt := 71) dX8_reachNow_67 (by decide) ?_
                  have hm33 := Nat.mod_lt y6 (show 0 < 2 ^ 1 by decide)
                  refine J_iandN (pc := 71) 1 dX8_reachNow_71 (by omega) (by decide) ?_
                  refine J_istore (pc := 72) dX8_reachNow_72 (by decide) rfl ?_
                  show J X mX8_reachNow d kc ks 74 [some (.ref 19), some (.int (nI s)), some (.int (nI a)), some (.int (nI c)), some (.int z4), some (.int (nI (c5 - 1))), some (.int (nI (y6 % 2 ^ 1))), some (.int (nI c7))] [] w12 _
                  refine J_iincN (pc := 74) (b := 1) dX8_reachNow_74 rfl (by decide) (by decide) rfl ?_
                  show J X mX8_reachNow d kc ks 77 [some (.ref 19), some (.int (nI s)), some (.int (nI a)), some (.int (nI c)), some (.int z4), some (.int (nI (c5 - 1))), some (.int (nI (y6 % 2 ^ 1))), some (.int (nI (c7 + 1)))] [] w12 _
                  refine J_goto (pc := 77) (tgt := 36) dX8_reachNow_77 (by decide) ?_
                  exact J_sub (L' := [some (.ref 19), some (.int (nI s)), some (.int (nI a)), some (.int (nI c)), some (.int z4), some (.int (nI (c5 - 1))), some (.int (nI (y6 % 2 ^ 1))), some (.int (nI (c7 + 1)))]) ⟨rfl, ⟨rfl, ⟨rfl, ⟨rfl, ⟨rfl, ⟨rfl, ⟨rfl, ⟨rfl, trivial⟩⟩⟩⟩⟩⟩⟩⟩ (ihlp36_13 (y6 % 2 ^ 1) (c7 + 1) (by first | assumption | omega) (by first | assumption | omega) (by omega))
          exact J_sub (L' := [some (.ref 19), some (.int (nI s)), some (.int (nI a)), some (.int (nI c)), some (.int z4), some (.int (nI (c5 - 1))), some (.int (nI 1)), some (.int (nI 0))]) ⟨rfl, ⟨rfl, ⟨rfl, ⟨rfl, ⟨rfl, ⟨rfl, ⟨rfl, ⟨rfl, trivial⟩⟩⟩⟩⟩⟩⟩⟩ (lp36_13 _ 1 0 (by first | assumption | omega) (by first | assumption | omega) (Nat.lt_succ_self _))
    exact J_sub (L' := [some (.ref 19), some (.int (nI s)), some (.int (nI a)), some (.int (nI c)), some (.int (nI 0)), some (.int (nI 0 + Int32.ofInt (-1))), none, none]) ⟨rfl, ⟨rfl, ⟨rfl, ⟨rfl, ⟨rfl, ⟨(congrArg (fun z => some (Value.int z)) (by decide : (-1 : Int32) = nI 0 + Int32.ofInt (-1))), trivial⟩⟩⟩⟩⟩⟩ (lp15_3 _ w rw (nI 0) 0 ⟨h19, h20, h21, h22, hbb, hbl, hb3⟩ hF gr (by first | assumption | omega) (Nat.lt_succ_self _))
  · refine J_istore (pc := 13) dX8_reachNow_13 (by decide) rfl ?_
    show J X mX8_reachNow d kc ks 15 [some (.ref 19), some (.int (nI s)), some (.int (nI a)), some (.int (nI c)), some (.int (nI 0)), some (.int (nI q2)), none, none] [] w _
    have lp15_34 : ∀ (fuel : Nat) (w35 : List jC) (rw_15 : Nat → Nat) (z4 : Int32) (c5 : Nat), (RM n mv rw_15 nx b bt kn en dn rf kk th w35) → (FR b b w w35) → (∀ i, rw_15 i < 7) → (c5 ≤ fc n) → (mu (fc n) c5 < fuel) → J X mX8_reachNow d kc ks 15 [some (.ref 19), some (.int (nI s)), some (.int (nI a)), some (.int (nI c)), some (.int z4), some (.int (nI c5 + Int32.ofInt (-1))), none, none] [] w35 (pI (fun _ => True) (fun w' => ∃ (rw' : Nat → Nat), RM n mv rw' nx b bt kn en dn rf kk th w' ∧ FR b b w w' ∧ (∀ i, rw' i < 7))) := by
      intro fuellp15_34
      induction fuellp15_34 with
      | zero => intros; omega
      | succ fuellp15_34 ihlp15_34 =>
        intro w35 rw_15 z4 c5 hR36 hF37 gr38 hv15_0 hf39
        obtain ⟨h19_40, h20_40, h21_40, h22_40, hb_40, hbl_40, hb3_40⟩ := hR36
        refine J_iload (pc := 15) dX8_reachNow_15 rfl ?_
        refine J_if_ltM (pc := 17) (tgt := 116) dX8_reachNow_17 (by decide) (by omega) (fun ht41 => ?_) (fun hf42 => ?_)
        · refine J_iload (pc := 116) dX8_reachNow_116 rfl ?_
          exact J_iret (pc := 118) dX8_reachNow_118 rfl ⟨trivial, ⟨rw_15, ⟨h19_40, h20_40, h21_40, h22_40, hb_40, hbl_40, hb3_40⟩, hF37, gr38⟩⟩
        · rw [nI_m1 hf42]
          refine J_aload_n (pc := 20) dX8_reachNow_20 rfl rfl rfl ?_
          refine J_iload (pc := 21) dX8_reachNow_21 rfl ?_
          refine J_aload_n (pc := 23) dX8_reachNow_23 rfl rfl rfl ?_
          refine J_get (pc := 24) (k := 2) dX8_reachNow_24 kC9 (by decide) ff_X8_17 h19_40 rfl ?_
          refine J_callV0 (pc := 27) (M := mX8_reachNow) (as := [.int (nI (c5 - 1)), .ref 21]) dX8_reachNow_27 fw_X8_rowOf fl_X8_78 fm_X8_rowOf fe_X8_rowOf h19_40 (by decide) rfl rfl rfl (c_X8_rowOf hs (d := d - 1) (Nat.le_trans (by decide) hdm) (w := w35) (n := n) (mv := mv) (rw := rw_15) (nx := nx) (b := b) (bt := bt) (kn := kn) (en := en) (dn := dn) (rf := rf) (kk := kk) (th := th) ⟨h19_40, h20_40, h21_40, h22_40, hb_40, hbl_40, hb3_40⟩ hn1 hn2 gm gr38 gx (c5 - 1) (by first | assumption | omega) (kc := 0) (ks := 0)) hdp (st := []) (Nat.le_of_ble_eq_true rfl) rfl (kr_V fun w43 hw43 => ?_) kx_V
          obtain ⟨rw43, hR43, hFc43, hgrw43, hp43_0⟩ := hw43
          obtain ⟨h19_43, h20_43, h21_43, h22_43, hbb_43, hbl_43, hb3_43⟩ := hR43
          have hF43 := hF37.tr hFc43
          refine J_iconst (pc := 30) (v := nI 1) dX8_reachNow_30 (by decide) ?_
          refine J_istore (pc := 31) dX8_reachNow_31 (by decide) rfl ?_
          show J X mX8_reachNow d kc ks 33 [some (.ref 19), some (.int (nI s)), some (.int (nI a)), some (.int (nI c)), some (.int z4), some (.int (nI (c5 - 1))), some (.int (nI 1)), none] [] w43 _
          refine J_iconst (pc := 33) (v := nI 0) dX8_reachNow_33 (by decide) ?_
          refine J_istore (pc := 34) dX8_reachNow_34 (by decide) rfl ?_
          show J X mX8_reachNow d kc ks 36 [some (.ref 19), some (.int (nI s)), some (.int (nI a)), some (.int (nI c)), some (.int z4), some (.int (nI (c5 - 1))), some (.int (nI 1)), some (.int (nI 0))] [] w43 _
          have lp36_44 : ∀ (fuel : Nat) (y6 : Nat) (c7 : Nat), (y6 < 2) → (c7 ≤ c) → (c - c7 < fuel) → J X mX8_reachNow d kc ks 36 [some (.ref 19), some (.int (nI s)), some (.int (nI a)), some (.int (nI c)), some (.int z4), some (.int (nI (c5 - 1))), some (.int (nI y6)), some (.int (nI c7))] [] w43 (pI (fun _ => True) (fun w' => ∃ (rw' : Nat → Nat), RM n mv rw' nx b bt kn en dn rf kk th w' ∧ FR b b w w' ∧ (∀ i, rw' i < 7))) := by
            intro fuellp36_44
            induction fuellp36_44 with
            | zero => intros; omega
            | succ fuellp36_44 ihlp36_44 =>
              intro y6 c7 hv36_0 hv36_1 hf45
              refine J_iload (pc := 36) dX8_reachNow_36 rfl ?_
              refine J_iload_n (pc := 38) dX8_reachNow_38 rfl rfl ?_
              refine J_icmp_geN (pc := 39) (tgt := 80) dX8_reachNow_39 (by decide) (by omega) (by omega) (fun ht46 => ?_) (fun hf47 => ?_)
              · refine J_iload (pc := 80) dX8_reachNow_80 rfl ?_
                refine J_if_eqN (pc := 82) (tgt := 103) dX8_reachNow_82 (by decide) (by omega) (fun ht48 => ?_) (fun hf49 => ?_)
                · refine J_aload_n (pc := 103) dX8_reachNow_103 rfl rfl rfl ?_
                  refine J_iload (pc := 104) dX8_reachNow_104 rfl ?_
                  refine J_iconst (pc := 106) (v := nI 1) dX8_reachNow_106 (by decide) ?_
                  refine J_iaddN (pc := 107) dX8_reachNow_107 ?_
                  refine J_callV0 (pc := 108) (M := mX8_reachNow) (as := [.int (nI ((c5 - 1) + 1))]) dX8_reachNow_108 fw_X8_from fl_X8_137 fm_X8_from fe_X8_from h19_43 (by decide) rfl rfl rfl (c_X8_from hs (d := d - 1) (Nat.le_trans (by decide) hdm) (w := w43) (n := n) (mv := mv) (rw := rw43) (nx := nx) (b := b) (bt := bt) (kn := kn) (en := en) (dn := dn) (rf := rf) (kk := kk) (th := th) ⟨h19_43, h20_43, h21_43, h22_43, hbb_43, hbl_43, hb3_43⟩ hn1 hn2 gm hgrw43 gx ((c5 - 1) + 1) (by first | assumption | omega) (kc := 0) (ks := 0)) hdp (st := []) (Nat.le_of_ble_eq_true rfl) rfl (kr_P fun v50 hv50 => ?_) kx_I
                  rcases hv50 with ⟨rfl, hk50_0⟩ | ⟨q50, rfl, hk50_0, hk50_1, hk50_2, hk50_3⟩
                  · refine J_istore (pc := 111) dX8_reachNow_111 (by decide) rfl ?_
                    show J X mX8_reachNow d kc ks 113 [some (.ref 19), some (.int (nI s)), some (.int (nI a)), some (.int (nI c)), some (.int z4), some (.int (-1)), some (.int (nI y6)), some (.int (nI c7))] [] w43 _
                    refine J_goto (pc := 113) (tgt := 15) dX8_reachNow_113 (by decide) ?_
                    exact J_sub (L' := [some (.ref 19), some (.int (nI s)), some (.int (nI a)), some (.int (nI c)), some (.int z4), some (.int (nI 0 + Int32.ofInt (-1))), none, none]) ⟨rfl, ⟨rfl, ⟨rfl, ⟨rfl, ⟨rfl, ⟨(congrArg (fun z => some (Value.int z)) (by decide : (-1 : Int32) = nI 0 + Int32.ofInt (-1))), trivial⟩⟩⟩⟩⟩⟩ (ihlp15_34 w43 rw43 z4 0 ⟨h19_43, h20_43, h21_43, h22_43, hbb_43, hbl_43, hb3_43⟩ hF43 hgrw43 (by first | assumption | omega) (by exact mu_dec (by assumption) (by omega) (by omega) (by omega)))
                  · refine J_istore (pc := 111) dX8_reachNow_111 (by decide) rfl ?_
                    show J X mX8_reachNow d kc ks 113 [some (.ref 19), some (.int (nI s)), some (.int (nI a)), some (.int (nI c)), some (.int z4), some (.int (nI q50)), some (.int (nI y6)), some (.int (nI c7))] [] w43 _
                    refine J_goto (pc := 113) (tgt := 15) dX8_reachNow_113 (by decide) ?_
                    exact J_sub (L' := [some (.ref 19), some (.int (nI s)), some (.int (nI a)), some (.int (nI c)), some (.int z4), some (.int (nI (q50 + 1) + Int32.ofInt (-1))), none, none]) ⟨rfl, ⟨rfl, ⟨rfl, ⟨rfl, ⟨rfl, ⟨(congrArg (fun z => some (Value.int z)) (nI_n1 q50)), trivial⟩⟩⟩⟩⟩⟩ (ihlp15_34 w43 rw43 z4 (q50 + 1) ⟨h19_43, h20_43, h21_43, h22_43, hbb_43, hbl_43, hb3_43⟩ hF43 hgrw43 (by first | assumption | omega) (by exact mu_dec (by assumption) (by omega) (by omega) (by omega)))
                · refine J_iload (pc := 85) dX8_reachNow_85 rfl ?_
                  refine J_iconst (pc := 87) (v := nI 1) dX8_reachNow_87 (by decide) ?_
                  refine J_aload_n (pc := 88) dX8_reachNow_88 rfl rfl rfl ?_
                  refine J_get (pc := 89) (k := 2) dX8_reachNow_89 kC9 (by decide) ff_X8_17 h19_43 rfl ?_
                  refine J_aload_n (pc := 92) dX8_reachNow_92 rfl rfl rfl ?_
                  refine J_iload_n (pc := 93) dX8_reachNow_93 rfl rfl ?_
                  refine J_iload_n (pc := 94) dX8_reachNow_94 rfl rfl ?_
                  refine J_callV0 (pc := 95) (M := mX8_reachNow) (as := [.int (nI a), .int (nI c)]) dX8_reachNow_95 fw_X8_at fl_X8_82 fm_X8_at fe_X8_at h19_43 (by decide) rfl rfl rfl (c_X8_at hs (d := d - 1) (Nat.le_trans (by decide) hdm) (w := w43) (n := n) (mv := mv) (rw := rw43) (nx := nx) (b := b) (bt := bt) (kn := kn) (en := en) (dn := dn) (rf := rf) (kk := kk) (th := th) ⟨h19_43, h20_43, h21_43, h22_43, hbb_43, hbl_43, hb3_43⟩ hn1 hn2 gm hgrw43 gx a c (by first | assumption | omega) (by first | assumption | omega) (kc := 0) (ks := 0)) hdp (st := [.ref 21, .int (nI 1), .int z4]) (Nat.le_of_ble_eq_true rfl) rfl (kr_P fun v51 hv51 => ?_) kx_I
                  subst hv51
                  have hq52 := gm (a * 7 + c)
                  refine J_ialdF (pc := 98) dX8_reachNow_98 h21_43 (by omega) (by decide) ?_
                  have hq53 := hgrw43 (mv (a * 7 + c))
                  refine J_ishl (pc := 99) dX8_reachNow_99 (J_absI fun x54 => ?_)
                  refine J_ior (pc := 100) dX8_reachNow_100 (J_absI fun x55 => ?_)
                  refine J_istore (pc := 101) dX8_reachNow_101 (by decide) rfl ?_
                  show J X mX8_reachNow d kc ks 103 [some (.ref 19), some (.int (nI s)), some (.int (nI a)), some (.int (nI c)), some (.int x55), some (.int (nI (c5 - 1))), some (.int (nI y6)), some (.int (nI c7))] [] w43 _
                  refine J_aload_n (pc := 103) dX8_reachNow_103 rfl rfl rfl ?_
                  refine J_iload (pc := 104) dX8_reachNow_104 rfl ?_
                  refine J_iconst (pc := 106) (v := nI 1) dX8_reachNow_106 (by decide) ?_
                  refine J_iaddN (pc := 107) dX8_reachNow_107 ?_
                  refine J_callV0 (pc := 108) (M := mX8_reachNow) (as := [.int (nI ((c5 - 1) + 1))]) dX8_reachNow_108 fw_X8_from fl_X8_137 fm_X8_from fe_X8_from h19_43 (by decide) rfl rfl rfl (c_X8_from hs (d := d - 1) (Nat.le_trans (by decide) hdm) (w := w43) (n := n) (mv := mv) (rw := rw43) (nx := nx) (b := b) (bt := bt) (kn := kn) (en := en) (dn := dn) (rf := rf) (kk := kk) (th := th) ⟨h19_43, h20_43, h21_43, h22_43, hbb_43, hbl_43, hb3_43⟩ hn1 hn2 gm hgrw43 gx ((c5 - 1) + 1) (by first | assumption | omega) (kc := 0) (ks := 0)) hdp (st := []) (Nat.le_of_ble_eq_true rfl) rfl (kr_P fun v56 hv56 => ?_) kx_I
                  rcases hv56 with ⟨rfl, hk56_0⟩ | ⟨q56, rfl, hk56_0, hk56_1, hk56_2, hk56_3⟩
                  · refine J_istore (pc := 111) dX8_reachNow_111 (by decide) rfl ?_
                    show J X mX8_reachNow d kc ks 113 [some (.ref 19), some (.int (nI s)), some (.int (nI a)), some (.int (nI c)), some (.int x55), some (.int (-1)), some (.int (nI y6)), some (.int (nI c7))] [] w43 _
                    refine J_goto (pc := 113) (tgt := 15) dX8_reachNow_113 (by decide) ?_
                    exact J_sub (L' := [some (.ref 19), some (.int (nI s)), some (.int (nI a)), some (.int (nI c)), some (.int x55), some (.int (nI 0 + Int32.ofInt (-1))), none, none]) ⟨rfl, ⟨rfl, ⟨rfl, ⟨rfl, ⟨rfl, ⟨(congrArg (fun z => some (Value.int z)) (by decide : (-1 : Int32) = nI 0 + Int32.ofInt (-1))), trivial⟩⟩⟩⟩⟩⟩ (ihlp15_34 w43 rw43 x55 0 ⟨h19_43, h20_43, h21_43, h22_43, hbb_43, hbl_43, hb3_43⟩ hF43 hgrw43 (by first | assumption | omega) (by exact mu_dec (by assumption) (by omega) (by omega) (by omega)))
                  · refine J_istore (pc := 111) dX8_reachNow_111 (by decide) rfl ?_
                    show J X mX8_reachNow d kc ks 113 [some (.ref 19), some (.int (nI s)), some (.int (nI a)), some (.int (nI c)), some (.int x55), some (.int (nI q56)), some (.int (nI y6)), some (.int (nI c7))] [] w43 _
                    refine J_goto (pc := 113) (tgt := 15) dX8_reachNow_113 (by decide) ?_
                    exact J_sub (L' := [some (.ref 19), some (.int (nI s)), some (.int (nI a)), some (.int (nI c)), some (.int x55), some (.int (nI (q56 + 1) + Int32.ofInt (-1))), none, none]) ⟨rfl, ⟨rfl, ⟨rfl, ⟨rfl, ⟨rfl, ⟨(congrArg (fun z => some (Value.int z)) (nI_n1 q56)), trivial⟩⟩⟩⟩⟩⟩ (ihlp15_34 w43 rw43 x55 (q56 + 1) ⟨h19_43, h20_43, h21_43, h22_43, hbb_43, hbl_43, hb3_43⟩ hF43 hgrw43 (by first | assumption | omega) (by exact mu_dec (by assumption) (by omega) (by omega) (by omega)))
              · refine J_iload (pc := 42) dX8_reachNow_42 rfl ?_
                refine J_aload_n (pc := 44) dX8_reachNow_44 rfl rfl rfl ?_
                refine J_get (pc := 45) (k := 2) dX8_reachNow_45 kC9 (by decide) ff_X8_17 h19_43 rfl ?_
                refine J_aload_n (pc := 48) dX8_reachNow_48 rfl rfl rfl ?_
                refine J_iload_n (pc := 49) dX8_reachNow_49 rfl rfl ?_
                refine J_iload (pc := 50) dX8_reachNow_50 rfl ?_
                refine J_callV0 (pc := 52) (M := mX8_reachNow) (as := [.int (nI a), .int (nI c7)]) dX8_reachNow_52 fw_X8_at fl_X8_82 fm_X8_at fe_X8_at h19_43 (by decide) rfl rfl rfl (c_X8_at hs (d := d - 1) (Nat.le_trans (by decide) hdm) (w := w43) (n := n) (mv := mv) (rw := rw43) (nx := nx) (b := b) (bt := bt) (kn := kn) (en := en) (dn := dn) (rf := rf) (kk := kk) (th := th) ⟨h19_43, h20_43, h21_43, h22_43, hbb_43, hbl_43, hb3_43⟩ hn1 hn2 gm hgrw43 gx a c7 (by first | assumption | omega) (by first | assumption | omega) (kc := 0) (ks := 0)) hdp (st := [.ref 21, .int (nI y6)]) (Nat.le_of_ble_eq_true rfl) rfl (kr_P fun v57 hv57 => ?_) kx_I
                subst hv57
                have hq58 := gm (a * 7 + c7)
                refine J_ialdF (pc := 55) dX8_reachNow_55 h21_43 (by omega) (by decide) ?_
                have hq59 := hgrw43 (mv (a * 7 + c7))
                refine J_aload_n (pc := 56) dX8_reachNow_56 rfl rfl rfl ?_
                refine J_iload_n (pc := 57) dX8_reachNow_57 rfl rfl ?_
                refine J_iload (pc := 58) dX8_reachNow_58 rfl ?_
                refine J_callV0 (pc := 60) (M := mX8_reachNow) (as := [.int (nI a), .int (nI c7)]) dX8_reachNow_60 fw_X8_at fl_X8_82 fm_X8_at fe_X8_at h19_43 (by decide) rfl rfl rfl (c_X8_at hs (d := d - 1) (Nat.le_trans (by decide) hdm) (w := w43) (n := n) (mv := mv) (rw := rw43) (nx := nx) (b := b) (bt := bt) (kn := kn) (en := en) (dn := dn) (rf := rf) (kk := kk) (th := th) ⟨h19_43, h20_43, h21_43, h22_43, hbb_43, hbl_43, hb3_43⟩ hn1 hn2 gm hgrw43 gx a c7 (by first | assumption | omega) (by first | assumption | omega) (kc := 0) (ks := 0)) hdp (st := [.int (nI (rw43 (mv (a * 7 + c7)))), .int (nI y6)]) (Nat.le_of_ble_eq_true rfl) rfl (kr_P fun v60 hv60 => ?_) kx_I
                subst hv60
                have hq61 := gm (a * 7 + c7)
                refine J_icmp_neN (pc := 63) (tgt := 70) dX8_reachNow_63 (by decide) (by omega) (by omega) (fun ht62 => ?_) (fun hf63 => ?_)
                · refine J_iconst (pc := 70) (v := nI 0) dX8_reachNow_70 (by decide) ?_
                  refine J_iand1 (pc := 71) dX8_reachNow_71 (by omega) (by omega) ?_
                  refine J_istore (pc := 72) dX8_reachNow_72 (by decide) rfl ?_
                  show J X mX8_reachNow d kc ks 74 [some (.ref 19), some (.int (nI s)), some (.int (nI a)), some (.int (nI c)), some (.int z4), some (.int (nI (c5 - 1))), some (.int (nI (y6 * 0))), some (.int (nI c7))] [] w43 _
                  refine J_iincN (pc := 74) (b := 1) dX8_reachNow_74 rfl (by decide) (by decide) rfl ?_
                  show J X mX8_reachNow d kc ks 77 [some (.ref 19), some (.int (nI s)), some (.int (nI a)), some (.int (nI c)), some (.int z4), some (.int (nI (c5 - 1))), some (.int (nI (y6 * 0))), some (.int (nI (c7 + 1)))] [] w43 _
                  refine J_goto (pc := 77) (tgt := 36) dX8_reachNow_77 (by decide) ?_
                  exact J_sub (L' := [some (.ref 19), some (.int (nI s)), some (.int (nI a)), some (.int (nI c)), some (.int z4), some (.int (nI (c5 - 1))), some (.int (nI (y6 * 0))), some (.int (nI (c7 + 1)))]) ⟨rfl, ⟨rfl, ⟨rfl, ⟨rfl, ⟨rfl, ⟨rfl, ⟨rfl, ⟨rfl, trivial⟩⟩⟩⟩⟩⟩⟩⟩ (ihlp36_44 (y6 * 0) (c7 + 1) (by first | assumption | omega) (by first | assumption | omega) (by omega))
                · refine J_iconst (pc := 66) (v := nI 1) dX8_reachNow_66 (by decide) ?_
                  refine J_goto (pc := 67) (tgt := 71) dX8_reachNow_67 (by decide) ?_
                  have hm64 := Nat.mod_lt y6 (show 0 < 2 ^ 1 by decide)
                  refine J_iandN (pc := 71) 1 dX8_reachNow_71 (by omega) (by decide) ?_
                  refine J_istore (pc := 72) dX8_reachNow_72 (by decide) rfl ?_
                  show J X mX8_reachNow d kc ks 74 [some (.ref 19), some (.int (nI s)), some (.int (nI a)), some (.int (nI c)), some (.int z4), some (.int (nI (c5 - 1))), some (.int (nI (y6 % 2 ^ 1))), some (.int (nI c7))] [] w43 _
                  refine J_iincN (pc := 74) (b := 1) dX8_reachNow_74 rfl (by decide) (by decide) rfl ?_
                  show J X mX8_reachNow d kc ks 77 [some (.ref 19), some (.int (nI s)), some (.int (nI a)), some (.int (nI c)), some (.int z4), some (.int (nI (c5 - 1))), some (.int (nI (y6 % 2 ^ 1))), some (.int (nI (c7 + 1)))] [] w43 _
                  refine J_goto (pc := 77) (tgt := 36) dX8_reachNow_77 (by decide) ?_
                  exact J_sub (L' := [some (.ref 19), some (.int (nI s)), some (.int (nI a)), some (.int (nI c)), some (.int z4), some (.int (nI (c5 - 1))), some (.int (nI (y6 % 2 ^ 1))), some (.int (nI (c7 + 1)))]) ⟨rfl, ⟨rfl, ⟨rfl, ⟨rfl, ⟨rfl, ⟨rfl, ⟨rfl, ⟨rfl, trivial⟩⟩⟩⟩⟩⟩⟩⟩ (ihlp36_44 (y6 % 2 ^ 1) (c7 + 1) (by first | assumption | omega) (by first | assumption | omega) (by omega))
          exact J_sub (L' := [some (.ref 19), some (.int (nI s)), some (.int (nI a)), some (.int (nI c)), some (.int z4), some (.int (nI (c5 - 1))), some (.int (nI 1)), some (.int (nI 0))]) ⟨rfl, ⟨rfl, ⟨rfl, ⟨rfl, ⟨rfl, ⟨rfl, ⟨rfl, ⟨rfl, trivial⟩⟩⟩⟩⟩⟩⟩⟩ (lp36_44 _ 1 0 (by first | assumption | omega) (by first | assumption | omega) (Nat.lt_succ_self _))
    exact J_sub (L' := [some (.ref 19), some (.int (nI s)), some (.int (nI a)), some (.int (nI c)), some (.int (nI 0)), some (.int (nI (q2 + 1) + Int32.ofInt (-1))), none, none]) ⟨rfl, ⟨rfl, ⟨rfl, ⟨rfl, ⟨rfl, ⟨(congrArg (fun z => some (Value.int z)) (nI_n1 q2)), trivial⟩⟩⟩⟩⟩⟩ (lp15_34 _ w rw (nI 0) (q2 + 1) ⟨h19, h20, h21, h22, hbb, hbl, hb3⟩ hF gr (by first | assumption | omega) (Nat.lt_succ_self _))
set_option maxRecDepth 100000 in
set_option maxHeartbeats 4000000 in
theorem c_X8_isInNow_atk {X : jX} (hs : X.1.stackTraces = false) {d : Nat} (hd : 4 ≤ d) {n : Nat} {mv rw nx : Nat → Nat} {b : Nat} {bt : List Int32} {kn en dn rf kk th : Int32} {w : List jC} (hR : RM n mv rw nx b bt kn en dn rf kk th w) (hn1 : 2 ≤ n) (hn2 : n ≤ 7) (gm : ∀ i, mv i < 7) (gr : ∀ i, rw i < 7) (gx : ∀ i, nx i < 7) (s : Nat) (a : Nat) (hy0 : s < 64) (hy1 : kn = nI s) (hy2 : BX n mv s bt) (hy3 : PM n mv) (hy4 : a < 6) {kc ks : Nat} : jMet X mX8_isInNow d kc ks [.ref 19, .int (nI s), .int (nI a)] w (pI (fun v => ∃ k : Nat, v = nI k ∧ k < 2) (fun w' => RM n mv rw nx b bt kn en dn rf kk th w' ∧ FR b b w w')) := by
  refine jMet_of hs (by decide +kernel) (Nat.le_of_ble_eq_true rfl) (L := [some (.ref 19), some (.int (nI s)), some (.int (nI a))]) rfl ?_
  have hdm : 3 ≤ d - 1 := by omega
  have hdp : d - 1 + 1 ≤ d := by omega
  have hfc := fc_7 hn2
  have hfp := fc_pos n
  obtain ⟨h19, h20, h21, h22, hbb, hbl, hb3⟩ := hR
  have hF : FR b b w w := FR.rf
  refine J_aload_n (pc := 0) dX8_isInNow_0 rfl rfl rfl ?_
  refine J_iload_n (pc := 1) dX8_isInNow_1 rfl rfl ?_
  refine J_callV0 (pc := 2) (M := mX8_isInNow) (as := [.int (nI s)]) dX8_isInNow_2 fw_X8_group fl_X8_99 fm_X8_group fe_X8_group h19 (by decide) rfl rfl rfl (c_X8_group_atk hs (d := d - 1) (Nat.le_trans (by decide) hdm) (w := w) (n := n) (mv := mv) (rw := rw) (nx := nx) (b := b) (bt := bt) (kn := kn) (en := en) (dn := dn) (rf := rf) (kk := kk) (th := th) ⟨h19, h20, h21, h22, hbb, hbl, hb3⟩ hn1 hn2 gm gr gx s (by first | assumption | omega) (by first | assumption | omega) (kc := 0) (ks := 0)) hdp (st := []) (Nat.le_of_ble_eq_true rfl) rfl (kr_V fun w1 hw1 => ?_) kx_V
  obtain rfl := hw1.symm
  refine J_aload_n (pc := 5) dX8_isInNow_5 rfl rfl rfl ?_
  refine J_aload_n (pc := 6) dX8_isInNow_6 rfl rfl rfl ?_
  refine J_aload_n (pc := 7) dX8_isInNow_7 rfl rfl rfl ?_
  refine J_get (pc := 8) (k := 1) dX8_isInNow_8 kC9 (by decide) ff_X8_13 h19 rfl ?_
  refine J_iload_n (pc := 11) dX8_isInNow_11 rfl rfl ?_
  refine J_bipush (pc := 12) (v := nI 7) dX8_isInNow_12 (by decide) ?_
  refine J_imulN (pc := 14) dX8_isInNow_14 ?_
  refine J_callV0 (pc := 15) (M := mX8_isInNow) (as := [.ref 20, .int (nI (a * 7))]) dX8_isInNow_15 fw_X8_numberOf fl_X8_45 fm_X8_numberOf fe_X8_numberOf h19 (by decide) rfl rfl rfl (c_X8_numberOf_at20 hs (d := d - 1) (Nat.le_trans (by decide) hdm) (w := w) (n := n) (mv := mv) (rw := rw) (nx := nx) (b := b) (bt := bt) (kn := kn) (en := en) (dn := dn) (rf := rf) (kk := kk) (th := th) ⟨h19, h20, h21, h22, hbb, hbl, hb3⟩ hn1 hn2 gm gr gx (a * 7) (by first | assumption | omega) (kc := 0) (ks := 0)) hdp (st := [.ref 19]) (Nat.le_of_ble_eq_true rfl) rfl (kr_P fun v2 hv2 => ?_) kx_I
  subst hv2
  have hq3 := nuF_b mv (a * 7) n
  refine J_callV0 (pc := 18) (M := mX8_isInNow) (as := [.int (nI (nuF mv (a * 7) n n))]) dX8_isInNow_18 fw_X8_isBit fl_X8_88 fm_X8_isBit fe_X8_isBit h19 (by decide) rfl rfl rfl (c_X8_isBit hs (d := d - 1) (Nat.le_trans (by decide) hdm) (w := w) (n := n) (mv := mv) (rw := rw) (nx := nx) (b := b) (bt := bt) (kn := kn) (en := en) (dn := dn) (rf := rf) (kk := kk) (th := th) ⟨h19, h20, h21, h22, hbb, hbl, hb3⟩ hn1 hn2 gm gr gx (nuF mv (a * 7) n n) (by first | assumption | omega) (kc := 0) (ks := 0)) hdp (st := []) (Nat.le_of_ble_eq_true rfl) rfl (kr_P fun v4 hv4 => ?_) kx_I
  rcases hv4 with ⟨rfl, hk4_0⟩ | ⟨rfl, hk4_0⟩
  · exact J_zret (pc := 21) dX8_isInNow_21 rfl (nar_b (by first | decide | omega)) ⟨⟨0, rfl, by omega⟩, ⟨⟨h19, h20, h21, h22, hbb, hbl, hb3⟩, hF⟩⟩
  · exact J_zret (pc := 21) dX8_isInNow_21 rfl (nar_b (by first | decide | omega)) ⟨⟨1, rfl, by omega⟩, ⟨⟨h19, h20, h21, h22, hbb, hbl, hb3⟩, hF⟩⟩
end
section
/-! contracts of the reference: rspec4 -/
set_option maxRecDepth 100000 in
set_option maxHeartbeats 4000000 in
theorem c_X8_evenNow_atk {X : jX} (hs : X.1.stackTraces = false) {d : Nat} (hd : 4 ≤ d) {n : Nat} {mv rw nx : Nat → Nat} {b : Nat} {bt : List Int32} {kn en dn rf kk th : Int32} {w : List jC} (hR : RM n mv rw nx b bt kn en dn rf kk th w) (hn1 : 2 ≤ n) (hn2 : n ≤ 7) (gm : ∀ i, mv i < 7) (gr : ∀ i, rw i < 7) (gx : ∀ i, nx i < 7) (s : Nat) (hy0 : s < 64) (hy1 : kn = nI s) (hy2 : BX n mv s bt) (hy3 : PM n mv) {kc ks : Nat} : jMet X mX8_evenNow d kc ks [.ref 19, .int (nI s)] w (pI (fun _ => True) (fun w' => ∃ (rw' : Nat → Nat), RM n mv rw' nx b bt kn en dn rf kk th w' ∧ FR b b w w' ∧ (∀ i, rw' i < 7))) := by
  refine jMet_of hs (by decide +kernel) (Nat.le_of_ble_eq_true rfl) (L := [some (.ref 19), some (.int (nI s)), none, none]) rfl ?_
  have hdm : 3 ≤ d - 1 := by omega
  have hdp : d - 1 + 1 ≤ d := by omega
  have hfc := fc_7 hn2
  have hfp := fc_pos n
  obtain ⟨h19, h20, h21, h22, hbb, hbl, hb3⟩ := hR
  have hF : FR b b w w := FR.rf
  refine J_aload_n (pc := 0) dX8_evenNow_0 rfl rfl rfl ?_
  refine J_iload_n (pc := 1) dX8_evenNow_1 rfl rfl ?_
  refine J_callV0 (pc := 2) (M := mX8_evenNow) (as := [.int (nI s)]) dX8_evenNow_2 fw_X8_group fl_X8_99 fm_X8_group fe_X8_group h19 (by decide) rfl rfl rfl (c_X8_group_atk hs (d := d - 1) (Nat.le_trans (by decide) hdm) (w := w) (n := n) (mv := mv) (rw := rw) (nx := nx) (b := b) (bt := bt) (kn := kn) (en := en) (dn := dn) (rf := rf) (kk := kk) (th := th) ⟨h19, h20, h21, h22, hbb, hbl, hb3⟩ hn1 hn2 gm gr gx s (by first | assumption | omega) (by first | assumption | omega) (kc := 0) (ks := 0)) hdp (st := []) (Nat.le_of_ble_eq_true rfl) rfl (kr_V fun w1 hw1 => ?_) kx_V
  obtain rfl := hw1.symm
  refine J_iconst (pc := 5) (v := nI 0) dX8_evenNow_5 (by decide) ?_
  refine J_istore_n (pc := 6) dX8_evenNow_6 rfl (by decide) rfl ?_
  show J X mX8_evenNow d kc ks 7 [some (.ref 19), some (.int (nI s)), some (.int (nI 0)), none] [] w _
  refine J_aload_n (pc := 7) dX8_evenNow_7 rfl rfl rfl ?_
  refine J_iconst (pc := 8) (v := nI 0) dX8_evenNow_8 (by decide) ?_
  refine J_callV0 (pc := 9) (M := mX8_evenNow) (as := [.int (nI 0)]) dX8_evenNow_9 fw_X8_from fl_X8_137 fm_X8_from fe_X8_from h19 (by decide) rfl rfl rfl (c_X8_from hs (d := d - 1) (Nat.le_trans (by decide) hdm) (w := w) (n := n) (mv := mv) (rw := rw) (nx := nx) (b := b) (bt := bt) (kn := kn) (en := en) (dn := dn) (rf := rf) (kk := kk) (th := th) ⟨h19, h20, h21, h22, hbb, hbl, hb3⟩ hn1 hn2 gm gr gx 0 (by first | assumption | omega) (kc := 0) (ks := 0)) hdp (st := []) (Nat.le_of_ble_eq_true rfl) rfl (kr_P fun v2 hv2 => ?_) kx_I
  rcases hv2 with ⟨rfl, hk2_0⟩ | ⟨q2, rfl, hk2_0, hk2_1, hk2_2, hk2_3⟩
  · refine J_istore_n (pc := 12) dX8_evenNow_12 rfl (by decide) rfl ?_
    show J X mX8_evenNow d kc ks 13 [some (.ref 19), some (.int (nI s)), some (.int (nI 0)), some (.int (-1))] [] w _
    have lp13_3 : ∀ (fuel : Nat) (w4 : List jC) (rw_13 : Nat → Nat) (z2 : Int32) (c3 : Nat), (RM n mv rw_13 nx b bt kn en dn rf kk th w4) → (FR b b w w4) → (∀ i, rw_13 i < 7) → (c3 ≤ fc n) → (mu (fc n) c3 < fuel) → J X mX8_evenNow d kc ks 13 [some (.ref 19), some (.int (nI s)), some (.int z2), some (.int (nI c3 + Int32.ofInt (-1)))] [] w4 (pI (fun _ => True) (fun w' => ∃ (rw' : Nat → Nat), RM n mv rw' nx b bt kn en dn rf kk th w' ∧ FR b b w w' ∧ (∀ i, rw' i < 7))) := by
      intro fuellp13_3
      induction fuellp13_3 with
      | zero => intros; omega
      | succ fuellp13_3 ihlp13_3 =>
        intro w4 rw_13 z2 c3 hR5 hF6 gr7 hv13_0 hf8
        obtain ⟨h19_9, h20_9, h21_9, h22_9, hb_9, hbl_9, hb3_9⟩ := hR5
        refine J_iload_n (pc := 13) dX8_evenNow_13 rfl rfl ?_
        refine J_if_ltM (pc := 14) (tgt := 58) dX8_evenNow_14 (by decide) (by omega) (fun ht10 => ?_) (fun hf11 => ?_)
        · refine J_iload_n (pc := 58) dX8_evenNow_58 rfl rfl ?_
          exact J_iret (pc := 59) dX8_evenNow_59 rfl ⟨trivial, ⟨rw_13, ⟨h19_9, h20_9, h21_9, h22_9, hb_9, hbl_9, hb3_9⟩, hF6, gr7⟩⟩
        · rw [nI_m1 hf11]
          refine J_aload_n (pc := 17) dX8_evenNow_17 rfl rfl rfl ?_
          refine J_iload_n (pc := 18) dX8_evenNow_18 rfl rfl ?_
          refine J_aload_n (pc := 19) dX8_evenNow_19 rfl rfl rfl ?_
          refine J_get (pc := 20) (k := 2) dX8_evenNow_20 kC9 (by decide) ff_X8_17 h19_9 rfl ?_
          refine J_callV0 (pc := 23) (M := mX8_evenNow) (as := [.int (nI (c3 - 1)), .ref 21]) dX8_evenNow_23 fw_X8_rowOf fl_X8_78 fm_X8_rowOf fe_X8_rowOf h19_9 (by decide) rfl rfl rfl (c_X8_rowOf hs (d := d - 1) (Nat.le_trans (by decide) hdm) (w := w4) (n := n) (mv := mv) (rw := rw_13) (nx := nx) (b := b) (bt := bt) (kn := kn) (en := en) (dn := dn) (rf := rf) (kk := kk) (th := th) ⟨h19_9, h20_9, h21_9, h22_9, hb_9, hbl_9, hb3_9⟩ hn1 hn2 gm gr7 gx (c3 - 1) (by first | assumption | omega) (kc := 0) (ks := 0)) hdp (st := []) (Nat.le_of_ble_eq_true rfl) rfl (kr_V fun w12 hw12 => ?_) kx_V
          obtain ⟨rw12, hR12, hFc12, hgrw12, hp12_0⟩ := hw12
          obtain ⟨h19_12, h20_12, h21_12, h22_12, hbb_12, hbl_12, hb3_12⟩ := hR12
          have hF12 := hF6.tr hFc12
          refine J_iload_n (pc := 26) dX8_evenNow_26 rfl rfl ?_
          refine J_aload_n (pc := 27) dX8_evenNow_27 rfl rfl rfl ?_
          refine J_aload_n (pc := 28) dX8_evenNow_28 rfl rfl rfl ?_
          refine J_get (pc := 29) (k := 2) dX8_evenNow_29 kC9 (by decide) ff_X8_17 h19_12 rfl ?_
          refine J_iconst (pc := 32) (v := nI 0) dX8_evenNow_32 (by decide) ?_
          refine J_callV0 (pc := 33) (M := mX8_evenNow) (as := [.ref 21, .int (nI 0)]) dX8_evenNow_33 fw_X8_signOf fl_X8_115 fm_X8_signOf fe_X8_signOf h19_12 (by decide) rfl rfl rfl (c_X8_signOf_at21 hs (d := d - 1) (Nat.le_trans (by decide) hdm) (w := w12) (n := n) (mv := mv) (rw := rw12) (nx := nx) (b := b) (bt := bt) (kn := kn) (en := en) (dn := dn) (rf := rf) (kk := kk) (th := th) ⟨h19_12, h20_12, h21_12, h22_12, hbb_12, hbl_12, hb3_12⟩ hn1 hn2 gm hgrw12 gx 0 (by first | assumption | omega) (kc := 0) (ks := 0)) hdp (st := [.int z2]) (Nat.le_of_ble_eq_true rfl) rfl (kr_P fun v13 hv13 => ?_) kx_I
          refine J_iconst (pc := 36) (v := nI 1) dX8_evenNow_36 (by decide) ?_
          refine J_icmp_ne (pc := 37) (tgt := 44) dX8_evenNow_37 (by decide) (fun ht14 => ?_) (fun hf15 => ?_)
          · refine J_iconst (pc := 44) (v := nI 0) dX8_evenNow_44 (by decide) ?_
            refine J_iadd (pc := 45) dX8_evenNow_45 (J_absI fun x16 => ?_)
            refine J_istore_n (pc := 46) dX8_evenNow_46 rfl (by decide) rfl ?_
            show J X mX8_evenNow d kc ks 47 [some (.ref 19), some (.int (nI s)), some (.int x16), some (.int (nI (c3 - 1)))] [] w12 _
            refine J_aload_n (pc := 47) dX8_evenNow_47 rfl rfl rfl ?_
            refine J_iload_n (pc := 48) dX8_evenNow_48 rfl rfl ?_
            refine J_iconst (pc := 49) (v := nI 1) dX8_evenNow_49 (by decide) ?_
            refine J_iaddN (pc := 50) dX8_evenNow_50 ?_
            refine J_callV0 (pc := 51) (M := mX8_evenNow) (as := [.int (nI ((c3 - 1) + 1))]) dX8_evenNow_51 fw_X8_from fl_X8_137 fm_X8_from fe_X8_from h19_12 (by decide) rfl rfl rfl (c_X8_from hs (d := d - 1) (Nat.le_trans (by decide) hdm) (w := w12) (n := n) (mv := mv) (rw := rw12) (nx := nx) (b := b) (bt := bt) (kn := kn) (en := en) (dn := dn) (rf := rf) (kk := kk) (th := th) ⟨h19_12, h20_12, h21_12, h22_12, hbb_12, hbl_12, hb3_12⟩ hn1 hn2 gm hgrw12 gx ((c3 - 1) + 1) (by first | assumption | omega) (kc := 0) (ks := 0)) hdp (st := []) (Nat.le_of_ble_eq_true rfl) rfl (kr_P fun v17 hv17 => ?_) kx_I
            rcases hv17 with ⟨rfl, hk17_0⟩ | ⟨q17, rfl, hk17_0, hk17_1, hk17_2, hk17_3⟩
            · refine J_istore_n (pc := 54) dX8_evenNow_54 rfl (by decide) rfl ?_
              show J X mX8_evenNow d kc ks 55 [some (.ref 19), some (.int (nI s)), some (.int x16), some (.int (-1))] [] w12 _
              refine J_goto (pc := 55) (tgt := 13) dX8_evenNow_55 (by decide) ?_
              exact J_sub (L' := [some (.ref 19), some (.int (nI s)), some (.int x16), some (.int (nI 0 + Int32.ofInt (-1)))]) ⟨rfl, ⟨rfl, ⟨rfl, ⟨(congrArg (fun z => some (Value.int z)) (by decide : (-1 : Int32) = nI 0 + Int32.ofInt (-1))), trivial⟩⟩⟩⟩ (ihlp13_3 w12 rw12 x16 0 ⟨h19_12, h20_12, h21_12, h22_12, hbb_12, hbl_12, hb3_12⟩ hF12 hgrw12 (by first | assumption | omega) (by exact mu_dec (by assumption) (by omega) (by omega) (by omega)))
            · refine J_istore_n (pc := 54) dX8_evenNow_54 rfl (by decide) rfl ?_
              show J X mX8_evenNow d kc ks 55 [some (.ref 19), some (.int (nI s)), some (.int x16), some (.int (nI q17))] [] w12 _
              refine J_goto (pc := 55) (tgt := 13) dX8_evenNow_55 (by decide) ?_
              exact J_sub (L' := [some (.ref 19), some (.int (nI s)), some (.int x16), some (.int (nI (q17 + 1) + Int32.ofInt (-1)))]) ⟨rfl, ⟨rfl, ⟨rfl, ⟨(congrArg (fun z => some (Value.int z)) (nI_n1 q17)), trivial⟩⟩⟩⟩ (ihlp13_3 w12 rw12 x16 (q17 + 1) ⟨h19_12, h20_12, h21_12, h22_12, hbb_12, hbl_12, hb3_12⟩ hF12 hgrw12 (by first | assumption | omega) (by exact mu_dec (by assumption) (by omega) (by omega) (by omega)))
          · refine J_iconst (pc := 40) (v := nI 1) dX8_evenNow_40 (by decide) ?_
            refine J_goto (pc := 41) (tgt := 45) dX8_evenNow_41 (by decide) ?_
            refine J_iadd (pc := 45) dX8_evenNow_45 (J_absI fun x18 => ?_)
            refine J_istore_n (pc := 46) dX8_evenNow_46 rfl (by decide) rfl ?_
            show J X mX8_evenNow d kc ks 47 [some (.ref 19), some (.int (nI s)), some (.int x18), some (.int (nI (c3 - 1)))] [] w12 _
            refine J_aload_n (pc := 47) dX8_evenNow_47 rfl rfl rfl ?_
            refine J_iload_n (pc := 48) dX8_evenNow_48 rfl rfl ?_
            refine J_iconst (pc := 49) (v := nI 1) dX8_evenNow_49 (by decide) ?_
            refine J_iaddN (pc := 50) dX8_evenNow_50 ?_
            refine J_callV0 (pc := 51) (M := mX8_evenNow) (as := [.int (nI ((c3 - 1) + 1))]) dX8_evenNow_51 fw_X8_from fl_X8_137 fm_X8_from fe_X8_from h19_12 (by decide) rfl rfl rfl (c_X8_from hs (d := d - 1) (Nat.le_trans (by decide) hdm) (w := w12) (n := n) (mv := mv) (rw := rw12) (nx := nx) (b := b) (bt := bt) (kn := kn) (en := en) (dn := dn) (rf := rf) (kk := kk) (th := th) ⟨h19_12, h20_12, h21_12, h22_12, hbb_12, hbl_12, hb3_12⟩ hn1 hn2 gm hgrw12 gx ((c3 - 1) + 1) (by first | assumption | omega) (kc := 0) (ks := 0)) hdp (st := []) (Nat.le_of_ble_eq_true rfl) rfl (kr_P fun v19 hv19 => ?_) kx_I
            rcases hv19 with ⟨rfl, hk19_0⟩ | ⟨q19, rfl, hk19_0, hk19_1, hk19_2, hk19_3⟩
            · refine J_istore_n (pc := 54) dX8_evenNow_54 rfl (by decide) rfl ?_
              show J X mX8_evenNow d kc ks 55 [some (.ref 19), some (.int (nI s)), some (.int x18), some (.int (-1))] [] w12 _
              refine J_goto (pc := 55) (tgt := 13) dX8_evenNow_55 (by decide) ?_
              exact J_sub (L' := [some (.ref 19), some (.int (nI s)), some (.int x18), some (.int (nI 0 + Int32.ofInt (-1)))]) ⟨rfl, ⟨rfl, ⟨rfl, ⟨(congrArg (fun z => some (Value.int z)) (by decide : (-1 : Int32) = nI 0 + Int32.ofInt (-1))), trivial⟩⟩⟩⟩ (ihlp13_3 w12 rw12 x18 0 ⟨h19_12, h20_12, h21_12, h22_12, hbb_12, hbl_12, hb3_12⟩ hF12 hgrw12 (by first | assumption | omega) (by exact mu_dec (by assumption) (by omega) (by omega) (by omega)))
            · refine J_istore_n (pc := 54) dX8_evenNow_54 rfl (by decide) rfl ?_
              show J X mX8_evenNow d kc ks 55 [some (.ref 19), some (.int (nI s)), some (.int x18), some (.int (nI q19))] [] w12 _
              refine J_goto (pc := 55) (tgt := 13) dX8_evenNow_55 (by decide) ?_
              exact J_sub (L' := [some (.ref 19), some (.int (nI s)), some (.int x18), some (.int (nI (q19 + 1) + Int32.ofInt (-1)))]) ⟨rfl, ⟨rfl, ⟨rfl, ⟨(congrArg (fun z => some (Value.int z)) (nI_n1 q19)), trivial⟩⟩⟩⟩ (ihlp13_3 w12 rw12 x18 (q19 + 1) ⟨h19_12, h20_12, h21_12, h22_12, hbb_12, hbl_12, hb3_12⟩ hF12 hgrw12 (by first | assumption | omega) (by exact mu_dec (by assumption) (by omega) (by omega) (by omega)))
    exact J_sub (L' := [some (.ref 19), some (.int (nI s)), some (.int (nI 0)), some (.int (nI 0 + Int32.ofInt (-1)))]) ⟨rfl, ⟨rfl, ⟨rfl, ⟨(congrArg (fun z => some (Value.int z)) (by decide : (-1 : Int32) = nI 0 + Int32.ofInt (-1))), trivial⟩⟩⟩⟩ (lp13_3 _ w rw (nI 0) 0 ⟨h19, h20, h21, h22, hbb, hbl, hb3⟩ hF gr (by first | assumption | omega) (Nat.lt_succ_self _))
  · refine J_istore_n (pc := 12) dX8_evenNow_12 rfl (by decide) rfl ?_
    show J X mX8_evenNow d kc ks 13 [some (.ref 19), some (.int (nI s)), some (.int (nI 0)), some (.int (nI q2))] [] w _
    have lp13_20 : ∀ (fuel : Nat) (w21 : List jC) (rw_13 : Nat → Nat) (z2 : Int32) (c3 : Nat), (RM n mv rw_13 nx b bt kn en dn rf kk th w21) → (FR b b w w21) → (∀ i, rw_13 i < 7) → (c3 ≤ fc n) → (mu (fc n) c3 < fuel) → J X mX8_evenNow d kc ks 13 [some (.ref 19), some (.int (nI s)), some (.int z2), some (.int (nI c3 + Int32.ofInt (-1)))] [] w21 (pI (fun _ => True) (fun w' => ∃ (rw' : Nat → Nat), RM n mv rw' nx b bt kn en dn rf kk th w' ∧ FR b b w w' ∧ (∀ i, rw' i < 7))) := by
      intro fuellp13_20
      induction fuellp13_20 with
      | zero => intros; omega
      | succ fuellp13_20 ihlp13_20 =>
        intro w21 rw_13 z2 c3 hR22 hF23 gr24 hv13_0 hf25
        obtain ⟨h19_26, h20_26, h21_26, h22_26, hb_26, hbl_26, hb3_26⟩ := hR22
        refine J_iload_n (pc := 13) dX8_evenNow_13 rfl rfl ?_
        refine J_if_ltM (pc := 14) (tgt := 58) dX8_evenNow_14 (by decide) (by omega) (fun ht27 => ?_) (fun hf28 => ?_)
        · refine J_iload_n (pc := 58) dX8_evenNow_58 rfl rfl ?_
          exact J_iret (pc := 59) dX8_evenNow_59 rfl ⟨trivial, ⟨rw_13, ⟨h19_26, h20_26, h21_26, h22_26, hb_26, hbl_26, hb3_26⟩, hF23, gr24⟩⟩
        · rw [nI_m1 hf28]
          refine J_aload_n (pc := 17) dX8_evenNow_17 rfl rfl rfl ?_
          refine J_iload_n (pc := 18) dX8_evenNow_18 rfl rfl ?_
          refine J_aload_n (pc := 19) dX8_evenNow_19 rfl rfl rfl ?_
          refine J_get (pc := 20) (k := 2) dX8_evenNow_20 kC9 (by decide) ff_X8_17 h19_26 rfl ?_
          refine J_callV0 (pc := 23) (M := mX8_evenNow) (as := [.int (nI (c3 - 1)), .ref 21]) dX8_evenNow_23 fw_X8_rowOf fl_X8_78 fm_X8_rowOf fe_X8_rowOf h19_26 (by decide) rfl rfl rfl (c_X8_rowOf hs (d := d - 1) (Nat.le_trans (by decide) hdm) (w := w21) (n := n) (mv := mv) (rw := rw_13) (nx := nx) (b := b) (bt := bt) (kn := kn) (en := en) (dn := dn) (rf := rf) (kk := kk) (th := th) ⟨h19_26, h20_26, h21_26, h22_26, hb_26, hbl_26, hb3_26⟩ hn1 hn2 gm gr24 gx (c3 - 1) (by first | assumption | omega) (kc := 0) (ks := 0)) hdp (st := []) (Nat.le_of_ble_eq_true rfl) rfl (kr_V fun w29 hw29 => ?_) kx_V
          obtain ⟨rw29, hR29, hFc29, hgrw29, hp29_0⟩ := hw29
          obtain ⟨h19_29, h20_29, h21_29, h22_29, hbb_29, hbl_29, hb3_29⟩ := hR29
          have hF29 := hF23.tr hFc29
          refine J_iload_n (pc := 26) dX8_evenNow_26 rfl rfl ?_
          refine J_aload_n (pc := 27) dX8_evenNow_27 rfl rfl rfl ?_
          refine J_aload_n (pc := 28) dX8_evenNow_28 rfl rfl rfl ?_
          refine J_get (pc := 29) (k := 2) dX8_evenNow_29 kC9 (by decide) ff_X8_17 h19_29 rfl ?_
          refine J_iconst (pc := 32) (v := nI 0) dX8_evenNow_32 (by decide) ?_
          refine J_callV0 (pc := 33) (M := mX8_evenNow) (as := [.ref 21, .int (nI 0)]) dX8_evenNow_33 fw_X8_signOf fl_X8_115 fm_X8_signOf fe_X8_signOf h19_29 (by decide) rfl rfl rfl (c_X8_signOf_at21 hs (d := d - 1) (Nat.le_trans (by decide) hdm) (w := w29) (n := n) (mv := mv) (rw := rw29) (nx := nx) (b := b) (bt := bt) (kn := kn) (en := en) (dn := dn) (rf := rf) (kk := kk) (th := th) ⟨h19_29, h20_29, h21_29, h22_29, hbb_29, hbl_29, hb3_29⟩ hn1 hn2 gm hgrw29 gx 0 (by first | assumption | omega) (kc := 0) (ks := 0)) hdp (st := [.int z2]) (Nat.le_of_ble_eq_true rfl) rfl (kr_P fun v30 hv30 => ?_) kx_I
          refine J_iconst (pc := 36) (v := nI 1) dX8_evenNow_36 (by decide) ?_
          refine J_icmp_ne (pc := 37) (tgt := 44) dX8_evenNow_37 (by decide) (fun ht31 => ?_) (fun hf32 => ?_)
          · refine J_iconst (pc := 44) (v := nI 0) dX8_evenNow_44 (by decide) ?_
            refine J_iadd (pc := 45) dX8_evenNow_45 (J_absI fun x33 => ?_)
            refine J_istore_n (pc := 46) dX8_evenNow_46 rfl (by decide) rfl ?_
            show J X mX8_evenNow d kc ks 47 [some (.ref 19), some (.int (nI s)), some (.int x33), some (.int (nI (c3 - 1)))] [] w29 _
            refine J_aload_n (pc := 47) dX8_evenNow_47 rfl rfl rfl ?_
            refine J_iload_n (pc := 48) dX8_evenNow_48 rfl rfl ?_
            refine J_iconst (pc := 49) (v := nI 1) dX8_evenNow_49 (by decide) ?_
            refine J_iaddN (pc := 50) dX8_evenNow_50 ?_
            refine J_callV0 (pc := 51) (M := mX8_evenNow) (as := [.int (nI ((c3 - 1) + 1))]) dX8_evenNow_51 fw_X8_from fl_X8_137 fm_X8_from fe_X8_from h19_29 (by decide) rfl rfl rfl (c_X8_from hs (d := d - 1) (Nat.le_trans (by decide) hdm) (w := w29) (n := n) (mv := mv) (rw := rw29) (nx := nx) (b := b) (bt := bt) (kn := kn) (en := en) (dn := dn) (rf := rf) (kk := kk) (th := th) ⟨h19_29, h20_29, h21_29, h22_29, hbb_29, hbl_29, hb3_29⟩ hn1 hn2 gm hgrw29 gx ((c3 - 1) + 1) (by first | assumption | omega) (kc := 0) (ks := 0)) hdp (st := []) (Nat.le_of_ble_eq_true rfl) rfl (kr_P fun v34 hv34 => ?_) kx_I
            rcases hv34 with ⟨rfl, hk34_0⟩ | ⟨q34, rfl, hk34_0, hk34_1, hk34_2, hk34_3⟩
            · refine J_istore_n (pc := 54) dX8_evenNow_54 rfl (by decide) rfl ?_
              show J X mX8_evenNow d kc ks 55 [some (.ref 19), some (.int (nI s)), some (.int x33), some (.int (-1))] [] w29 _
              refine J_goto (pc := 55) (tgt := 13) dX8_evenNow_55 (by decide) ?_
              exact J_sub (L' := [some (.ref 19), some (.int (nI s)), some (.int x33), some (.int (nI 0 + Int32.ofInt (-1)))]) ⟨rfl, ⟨rfl, ⟨rfl, ⟨(congrArg (fun z => some (Value.int z)) (by decide : (-1 : Int32) = nI 0 + Int32.ofInt (-1))), trivial⟩⟩⟩⟩ (ihlp13_20 w29 rw29 x33 0 ⟨h19_29, h20_29, h21_29, h22_29, hbb_29, hbl_29, hb3_29⟩ hF29 hgrw29 (by first | assumption | omega) (by exact mu_dec (by assumption) (by omega) (by omega) (by omega)))
            · refine J_istore_n (pc := 54) dX8_evenNow_54 rfl (by decide) rfl ?_
              show J X mX8_evenNow d kc ks 55 [some (.ref 19), some (.int (nI s)), some (.int x33), some (.int (nI q34))] [] w29 _
              refine J_goto (pc := 55) (tgt := 13) dX8_evenNow_55 (by decide) ?_
              exact J_sub (L' := [some (.ref 19), some (.int (nI s)), some (.int x33), some (.int (nI (q34 + 1) + Int32.ofInt (-1)))]) ⟨rfl, ⟨rfl, ⟨rfl, ⟨(congrArg (fun z => some (Value.int z)) (nI_n1 q34)), trivial⟩⟩⟩⟩ (ihlp13_20 w29 rw29 x33 (q34 + 1) ⟨h19_29, h20_29, h21_29, h22_29, hbb_29, hbl_29, hb3_29⟩ hF29 hgrw29 (by first | assumption | omega) (by exact mu_dec (by assumption) (by omega) (by omega) (by omega)))
          · refine J_iconst (pc := 40) (v := nI 1) dX8_evenNow_40 (by decide) ?_
            refine J_goto (pc := 41) (tgt := 45) dX8_evenNow_41 (by decide) ?_
            refine J_iadd (pc := 45) dX8_evenNow_45 (J_absI fun x35 => ?_)
            refine J_istore_n (pc := 46) dX8_evenNow_46 rfl (by decide) rfl ?_
            show J X mX8_evenNow d kc ks 47 [some (.ref 19), some (.int (nI s)), some (.int x35), some (.int (nI (c3 - 1)))] [] w29 _
            refine J_aload_n (pc := 47) dX8_evenNow_47 rfl rfl rfl ?_
            refine J_iload_n (pc := 48) dX8_evenNow_48 rfl rfl ?_
            refine J_iconst (pc := 49) (v := nI 1) dX8_evenNow_49 (by decide) ?_
            refine J_iaddN (pc := 50) dX8_evenNow_50 ?_
            refine J_callV0 (pc := 51) (M := mX8_evenNow) (as := [.int (nI ((c3 - 1) + 1))]) dX8_evenNow_51 fw_X8_from fl_X8_137 fm_X8_from fe_X8_from h19_29 (by decide) rfl rfl rfl (c_X8_from hs (d := d - 1) (Nat.le_trans (by decide) hdm) (w := w29) (n := n) (mv := mv) (rw := rw29) (nx := nx) (b := b) (bt := bt) (kn := kn) (en := en) (dn := dn) (rf := rf) (kk := kk) (th := th) ⟨h19_29, h20_29, h21_29, h22_29, hbb_29, hbl_29, hb3_29⟩ hn1 hn2 gm hgrw29 gx ((c3 - 1) + 1) (by first | assumption | omega) (kc := 0) (ks := 0)) hdp (st := []) (Nat.le_of_ble_eq_true rfl) rfl (kr_P fun v36 hv36 => ?_) kx_I
            rcases hv36 with ⟨rfl, hk36_0⟩ | ⟨q36, rfl, hk36_0, hk36_1, hk36_2, hk36_3⟩
            · refine J_istore_n (pc := 54) dX8_evenNow_54 rfl (by decide) rfl ?_
              show J X mX8_evenNow d kc ks 55 [some (.ref 19), some (.int (nI s)), some (.int x35), some (.int (-1))] [] w29 _
              refine J_goto (pc := 55) (tgt := 13) dX8_evenNow_55 (by decide) ?_
              exact J_sub (L' := [some (.ref 19), some (.int (nI s)), some (.int x35), some (.int (nI 0 + Int32.ofInt (-1)))]) ⟨rfl, ⟨rfl, ⟨rfl, ⟨(congrArg (fun z => some (Value.int z)) (by decide : (-1 : Int32) = nI 0 + Int32.ofInt (-1))), trivial⟩⟩⟩⟩ (ihlp13_20 w29 rw29 x35 0 ⟨h19_29, h20_29, h21_29, h22_29, hbb_29, hbl_29, hb3_29⟩ hF29 hgrw29 (by first | assumption | omega) (by exact mu_dec (by assumption) (by omega) (by omega) (by omega)))
            · refine J_istore_n (pc := 54) dX8_evenNow_54 rfl (by decide) rfl ?_
              show J X mX8_evenNow d kc ks 55 [some (.ref 19), some (.int (nI s)), some (.int x35), some (.int (nI q36))] [] w29 _
              refine J_goto (pc := 55) (tgt := 13) dX8_evenNow_55 (by decide) ?_
              exact J_sub (L' := [some (.ref 19), some (.int (nI s)), some (.int x35), some (.int (nI (q36 + 1) + Int32.ofInt (-1)))]) ⟨rfl, ⟨rfl, ⟨rfl, ⟨(congrArg (fun z => some (Value.int z)) (nI_n1 q36)), trivial⟩⟩⟩⟩ (ihlp13_20 w29 rw29 x35 (q36 + 1) ⟨h19_29, h20_29, h21_29, h22_29, hbb_29, hbl_29, hb3_29⟩ hF29 hgrw29 (by first | assumption | omega) (by exact mu_dec (by assumption) (by omega) (by omega) (by omega)))
    exact J_sub (L' := [some (.ref 19), some (.int (nI s)), some (.int (nI 0)), some (.int (nI (q2 + 1) + Int32.ofInt (-1)))]) ⟨rfl, ⟨rfl, ⟨rfl, ⟨(congrArg (fun z => some (Value.int z)) (nI_n1 q2)), trivial⟩⟩⟩⟩ (lp13_20 _ w rw (nI 0) (q2 + 1) ⟨h19, h20, h21, h22, hbb, hbl, hb3⟩ hF gr (by first | assumption | omega) (Nat.lt_succ_self _))
end
section
/-! contracts of the reference: rspec4 -/
set_option maxRecDepth 100000 in
set_option maxHeartbeats 4000000 in
theorem c_X8_byThoseThatStay_atk {X : jX} (hs : X.1.stackTraces = false) {d : Nat} (hd : 4 ≤ d) {n : Nat} {mv rw nx : Nat → Nat} {b : Nat} {bt : List Int32} {kn en dn rf kk th : Int32} {w : List jC} (hR : RM n mv rw nx b bt kn en dn rf kk th w) (hn1 : 2 ≤ n) (hn2 : n ≤ 7) (gm : ∀ i, mv i < 7) (gr : ∀ i, rw i < 7) (gx : ∀ i, nx i < 7) (s : Nat) (c : Int32) (hy0 : s < 64) (hy1 : kn = nI s) (hy2 : BX n mv s bt) (hy3 : PM n mv) {kc ks : Nat} : jMet X mX8_byThoseThatStay d kc ks [.ref 19, .int (nI s), .int c] w (pI (fun _ => True) (fun w' => ∃ (rw' : Nat → Nat), RM n mv rw' nx b bt kn en dn rf kk th w' ∧ FR b b w w' ∧ (∀ i, rw' i < 7))) := by
  refine jMet_of hs (by decide +kernel) (Nat.le_of_ble_eq_true rfl) (L := [some (.ref 19), some (.int (nI s)), some (.int c), none, none, none, none]) rfl ?_
  have hdm : 3 ≤ d - 1 := by omega
  have hdp : d - 1 + 1 ≤ d := by omega
  have hfc := fc_7 hn2
  have hfp := fc_pos n
  obtain ⟨h19, h20, h21, h22, hbb, hbl, hb3⟩ := hR
  have hF : FR b b w w := FR.rf
  refine J_aload_n (pc := 0) dX8_byThoseThatStay_0 rfl rfl rfl ?_
  refine J_iload_n (pc := 1) dX8_byThoseThatStay_1 rfl rfl ?_
  refine J_callV0 (pc := 2) (M := mX8_byThoseThatStay) (as := [.int (nI s)]) dX8_byThoseThatStay_2 fw_X8_group fl_X8_99 fm_X8_group fe_X8_group h19 (by decide) rfl rfl rfl (c_X8_group_atk hs (d := d - 1) (Nat.le_trans (by decide) hdm) (w := w) (n := n) (mv := mv) (rw := rw) (nx := nx) (b := b) (bt := bt) (kn := kn) (en := en) (dn := dn) (rf := rf) (kk := kk) (th := th) ⟨h19, h20, h21, h22, hbb, hbl, hb3⟩ hn1 hn2 gm gr gx s (by first | assumption | omega) (by first | assumption | omega) (kc := 0) (ks := 0)) hdp (st := []) (Nat.le_of_ble_eq_true rfl) rfl (kr_V fun w1 hw1 => ?_) kx_V
  obtain rfl := hw1.symm
  have hBT := hy2
  refine J_iconst (pc := 5) (v := nI 0) dX8_byThoseThatStay_5 (by decide) ?_
  refine J_istore_n (pc := 6) dX8_byThoseThatStay_6 rfl (by decide) rfl ?_
  show J X mX8_byThoseThatStay d kc ks 7 [some (.ref 19), some (.int (nI s)), some (.int c), some (.int (nI 0)), none, none, none] [] w _
  refine J_aload_n (pc := 7) dX8_byThoseThatStay_7 rfl rfl rfl ?_
  refine J_iconst (pc := 8) (v := nI 0) dX8_byThoseThatStay_8 (by decide) ?_
  refine J_callV0 (pc := 9) (M := mX8_byThoseThatStay) (as := [.int (nI 0)]) dX8_byThoseThatStay_9 fw_X8_from fl_X8_137 fm_X8_from fe_X8_from h19 (by decide) rfl rfl rfl (c_X8_from hs (d := d - 1) (Nat.le_trans (by decide) hdm) (w := w) (n := n) (mv := mv) (rw := rw) (nx := nx) (b := b) (bt := bt) (kn := kn) (en := en) (dn := dn) (rf := rf) (kk := kk) (th := th) ⟨h19, h20, h21, h22, hbb, hbl, hb3⟩ hn1 hn2 gm gr gx 0 (by first | assumption | omega) (kc := 0) (ks := 0)) hdp (st := []) (Nat.le_of_ble_eq_true rfl) rfl (kr_P fun v2 hv2 => ?_) kx_I
  rcases hv2 with ⟨rfl, hk2_0⟩ | ⟨q2, rfl, hk2_0, hk2_1, hk2_2, hk2_3⟩
  · refine J_istore (pc := 12) dX8_byThoseThatStay_12 (by decide) rfl ?_
    show J X mX8_byThoseThatStay d kc ks 14 [some (.ref 19), some (.int (nI s)), some (.int c), some (.int (nI 0)), some (.int (-1)), none, none] [] w _
    have lp14_3 : ∀ (fuel : Nat) (w4 : List jC) (rw_14 : Nat → Nat) (z3 : Int32) (c4 : Nat), (RM n mv rw_14 nx b bt kn en dn rf kk th w4) → (FR b b w w4) → (∀ i, rw_14 i < 7) → (c4 ≤ fc n) → (mu (fc n) c4 < fuel) → J X mX8_byThoseThatStay d kc ks 14 [some (.ref 19), some (.int (nI s)), some (.int c), some (.int z3), some (.int (nI c4 + Int32.ofInt (-1))), none, none] [] w4 (pI (fun _ => True) (fun w' => ∃ (rw' : Nat → Nat), RM n mv rw' nx b bt kn en dn rf kk th w' ∧ FR b b w w' ∧ (∀ i, rw' i < 7))) := by
      intro fuellp14_3
      induction fuellp14_3 with
      | zero => intros; omega
      | succ fuellp14_3 ihlp14_3 =>
        intro w4 rw_14 z3 c4 hR5 hF6 gr7 hv14_0 hf8
        obtain ⟨h19_9, h20_9, h21_9, h22_9, hb_9, hbl_9, hb3_9⟩ := hR5
        refine J_iload (pc := 14) dX8_byThoseThatStay_14 rfl ?_
        refine J_if_ltM (pc := 16) (tgt := 78) dX8_byThoseThatStay_16 (by decide) (by omega) (fun ht10 => ?_) (fun hf11 => ?_)
        · refine J_iload_n (pc := 78) dX8_byThoseThatStay_78 rfl rfl ?_
          refine J_aload_n (pc := 79) dX8_byThoseThatStay_79 rfl rfl rfl ?_
          refine J_callV0 (pc := 80) (M := mX8_byThoseThatStay) (as := []) dX8_byThoseThatStay_80 fw_X8_sizeNow fl_X8_102 fm_X8_sizeNow fe_X8_sizeNow h19_9 (by decide) rfl rfl rfl (c_X8_sizeNow hs (d := d - 1) (Nat.le_trans (by decide) hdm) (w := w4) (n := n) (mv := mv) (rw := rw_14) (nx := nx) (b := b) (bt := bt) (kn := kn) (en := en) (dn := dn) (rf := rf) (kk := kk) (th := th) ⟨h19_9, h20_9, h21_9, h22_9, hb_9, hbl_9, hb3_9⟩ hn1 hn2 gm gr7 gx  (kc := 0) (ks := 0)) hdp (st := [.int z3]) (Nat.le_of_ble_eq_true rfl) rfl (kr_P fun v12 hv12 => ?_) kx_I
          subst hv12
          have hsz := cnt_pos (P := bitL bt) 5056 0 (by decide) (BX_BT hn1 hn2 hBT).2
          have hsz2 := cnt_le (bitL bt) 5056
          refine J_idiv (pc := 83) dX8_byThoseThatStay_83 (nI_ne0 (by omega) (by omega)) (J_absI fun x13 => ?_)
          exact J_iret (pc := 84) dX8_byThoseThatStay_84 rfl ⟨trivial, ⟨rw_14, ⟨h19_9, h20_9, h21_9, h22_9, hb_9, hbl_9, hb3_9⟩, hF6, gr7⟩⟩
        · rw [nI_m1 hf11]
          refine J_aload_n (pc := 19) dX8_byThoseThatStay_19 rfl rfl rfl ?_
          refine J_iload (pc := 20) dX8_byThoseThatStay_20 rfl ?_
          refine J_aload_n (pc := 22) dX8_byThoseThatStay_22 rfl rfl rfl ?_
          refine J_get (pc := 23) (k := 2) dX8_byThoseThatStay_23 kC9 (by decide) ff_X8_17 h19_9 rfl ?_
          refine J_callV0 (pc := 26) (M := mX8_byThoseThatStay) (as := [.int (nI (c4 - 1)), .ref 21]) dX8_byThoseThatStay_26 fw_X8_rowOf fl_X8_78 fm_X8_rowOf fe_X8_rowOf h19_9 (by decide) rfl rfl rfl (c_X8_rowOf hs (d := d - 1) (Nat.le_trans (by decide) hdm) (w := w4) (n := n) (mv := mv) (rw := rw_14) (nx := nx) (b := b) (bt := bt) (kn := kn) (en := en) (dn := dn) (rf := rf) (kk := kk) (th := th) ⟨h19_9, h20_9, h21_9, h22_9, hb_9, hbl_9, hb3_9⟩ hn1 hn2 gm gr7 gx (c4 - 1) (by first | assumption | omega) (kc := 0) (ks := 0)) hdp (st := []) (Nat.le_of_ble_eq_true rfl) rfl (kr_V fun w14 hw14 => ?_) kx_V
          obtain ⟨rw14, hR14, hFc14, hgrw14, hp14_0⟩ := hw14
          obtain ⟨h19_14, h20_14, h21_14, h22_14, hbb_14, hbl_14, hb3_14⟩ := hR14
          have hF14 := hF6.tr hFc14
          have hPr := Pn_row (by omega) hp14_0
          refine J_iconst (pc := 29) (v := nI 1) dX8_byThoseThatStay_29 (by decide) ?_
          refine J_istore (pc := 30) dX8_byThoseThatStay_30 (by decide) rfl ?_
          show J X mX8_byThoseThatStay d kc ks 32 [some (.ref 19), some (.int (nI s)), some (.int c), some (.int z3), some (.int (nI (c4 - 1))), some (.int (nI 1)), none] [] w14 _
          refine J_aload_n (pc := 32) dX8_byThoseThatStay_32 rfl rfl rfl ?_
          refine J_aload_n (pc := 33) dX8_byThoseThatStay_33 rfl rfl rfl ?_
          refine J_get (pc := 34) (k := 2) dX8_byThoseThatStay_34 kC9 (by decide) ff_X8_17 h19_14 rfl ?_
          refine J_iconst (pc := 37) (v := nI 0) dX8_byThoseThatStay_37 (by decide) ?_
          refine J_callV0 (pc := 38) (M := mX8_byThoseThatStay) (as := [.ref 21, .int (nI 0)]) dX8_byThoseThatStay_38 fw_X8_ringsOf fl_X8_203 fm_X8_ringsOf fe_X8_ringsOf h19_14 (by decide) rfl rfl rfl (c_X8_ringsOf_at21 hs (d := d - 1) (Nat.le_trans (by decide) hdm) (w := w14) (n := n) (mv := mv) (rw := rw14) (nx := nx) (b := b) (bt := bt) (kn := kn) (en := en) (dn := dn) (rf := rf) (kk := kk) (th := th) ⟨h19_14, h20_14, h21_14, h22_14, hbb_14, hbl_14, hb3_14⟩ hn1 hn2 gm hgrw14 gx 0 (by first | assumption | omega) (by exact Pn_z hPr) (kc := 0) (ks := 0)) hdp (st := []) (Nat.le_of_ble_eq_true rfl) rfl (kr_P fun v15 hv15 => ?_) kx_I
          obtain ⟨k15, rfl, hk15⟩ := hv15
          refine J_istore (pc := 41) dX8_byThoseThatStay_41 (by decide) rfl ?_
          show J X mX8_byThoseThatStay d kc ks 43 [some (.ref 19), some (.int (nI s)), some (.int c), some (.int z3), some (.int (nI (c4 - 1))), some (.int (nI 1)), some (.int (nI k15))] [] w14 _
          have lp43_16 : ∀ (fuel : Nat) (z5 : Int32) (c6 : Nat), (c6 ≤ 7) → (c6 < fuel) → J X mX8_byThoseThatStay d kc ks 43 [some (.ref 19), some (.int (nI s)), some (.int c), some (.int z3), some (.int (nI (c4 - 1))), some (.int z5), some (.int (nI c6))] [] w14 (pI (fun _ => True) (fun w' => ∃ (rw' : Nat → Nat), RM n mv rw' nx b bt kn en dn rf kk th w' ∧ FR b b w w' ∧ (∀ i, rw' i < 7))) := by
            intro fuellp43_16
            induction fuellp43_16 with
            | zero => intros; omega
            | succ fuellp43_16 ihlp43_16 =>
              intro z5 c6 hv43_0 hf17
              refine J_iload (pc := 43) dX8_byThoseThatStay_43 rfl ?_
              refine J_if_leN (pc := 45) (tgt := 60) dX8_byThoseThatStay_45 (by decide) (by omega) (fun ht18 => ?_) (fun hf19 => ?_)
              · refine J_iload_n (pc := 60) dX8_byThoseThatStay_60 rfl rfl ?_
                refine J_iload (pc := 61) dX8_byThoseThatStay_61 rfl ?_
                refine J_iadd (pc := 63) dX8_byThoseThatStay_63 (J_absI fun x20 => ?_)
                refine J_istore_n (pc := 64) dX8_byThoseThatStay_64 rfl (by decide) rfl ?_
                show J X mX8_byThoseThatStay d kc ks 65 [some (.ref 19), some (.int (nI s)), some (.int c), some (.int x20), some (.int (nI (c4 - 1))), some (.int z5), some (.int (nI c6))] [] w14 _
                refine J_aload_n (pc := 65) dX8_byThoseThatStay_65 rfl rfl rfl ?_
                refine J_iload (pc := 66) dX8_byThoseThatStay_66 rfl ?_
                refine J_iconst (pc := 68) (v := nI 1) dX8_byThoseThatStay_68 (by decide) ?_
                refine J_iaddN (pc := 69) dX8_byThoseThatStay_69 ?_
                refine J_callV0 (pc := 70) (M := mX8_byThoseThatStay) (as := [.int (nI ((c4 - 1) + 1))]) dX8_byThoseThatStay_70 fw_X8_from fl_X8_137 fm_X8_from fe_X8_from h19_14 (by decide) rfl rfl rfl (c_X8_from hs (d := d - 1) (Nat.le_trans (by decide) hdm) (w := w14) (n := n) (mv := mv) (rw := rw14) (nx := nx) (b := b) (bt := bt) (kn := kn) (en := en) (dn := dn) (rf := rf) (kk := kk) (th := th) ⟨h19_14, h20_14, h21_14, h22_14, hbb_14, hbl_14, hb3_14⟩ hn1 hn2 gm hgrw14 gx ((c4 - 1) + 1) (by first | assumption | omega) (kc := 0) (ks := 0)) hdp (st := []) (Nat.le_of_ble_eq_true rfl) rfl (kr_P fun v21 hv21 => ?_) kx_I
                rcases hv21 with ⟨rfl, hk21_0⟩ | ⟨q21, rfl, hk21_0, hk21_1, hk21_2, hk21_3⟩
                · refine J_istore (pc := 73) dX8_byThoseThatStay_73 (by decide) rfl ?_
                  show J X mX8_byThoseThatStay d kc ks 75 [some (.ref 19), some (.int (nI s)), some (.int c), some (.int x20), some (.int (-1)), some (.int z5), some (.int (nI c6))] [] w14 _
                  refine J_goto (pc := 75) (tgt := 14) dX8_byThoseThatStay_75 (by decide) ?_
                  exact J_sub (L' := [some (.ref 19), some (.int (nI s)), some (.int c), some (.int x20), some (.int (nI 0 + Int32.ofInt (-1))), none, none]) ⟨rfl, ⟨rfl, ⟨rfl, ⟨rfl, ⟨(congrArg (fun z => some (Value.int z)) (by decide : (-1 : Int32) = nI 0 + Int32.ofInt (-1))), trivial⟩⟩⟩⟩⟩ (ihlp14_3 w14 rw14 x20 0 ⟨h19_14, h20_14, h21_14, h22_14, hbb_14, hbl_14, hb3_14⟩ hF14 hgrw14 (by first | assumption | omega) (by exact mu_dec (by assumption) (by omega) (by omega) (by omega)))
                · refine J_istore (pc := 73) dX8_byThoseThatStay_73 (by decide) rfl ?_
                  show J X mX8_byThoseThatStay d kc ks 75 [some (.ref 19), some (.int (nI s)), some (.int c), some (.int x20), some (.int (nI q21)), some (.int z5), some (.int (nI c6))] [] w14 _
                  refine J_goto (pc := 75) (tgt := 14) dX8_byThoseThatStay_75 (by decide) ?_
                  exact J_sub (L' := [some (.ref 19), some (.int (nI s)), some (.int c), some (.int x20), some (.int (nI (q21 + 1) + Int32.ofInt (-1))), none, none]) ⟨rfl, ⟨rfl, ⟨rfl, ⟨rfl, ⟨(congrArg (fun z => some (Value.int z)) (nI_n1 q21)), trivial⟩⟩⟩⟩⟩ (ihlp14_3 w14 rw14 x20 (q21 + 1) ⟨h19_14, h20_14, h21_14, h22_14, hbb_14, hbl_14, hb3_14⟩ hF14 hgrw14 (by first | assumption | omega) (by exact mu_dec (by assumption) (by omega) (by omega) (by omega)))
              · refine J_iload (pc := 48) dX8_byThoseThatStay_48 rfl ?_
                refine J_iload_n (pc := 50) dX8_byThoseThatStay_50 rfl rfl ?_
                refine J_imul (pc := 51) dX8_byThoseThatStay_51 (J_absI fun x22 => ?_)
                refine J_istore (pc := 52) dX8_byThoseThatStay_52 (by decide) rfl ?_
                show J X mX8_byThoseThatStay d kc ks 54 [some (.ref 19), some (.int (nI s)), some (.int c), some (.int z3), some (.int (nI (c4 - 1))), some (.int x22), some (.int (nI c6))] [] w14 _
                refine J_iincM (pc := 54) dX8_byThoseThatStay_54 rfl (by omega) (by decide) rfl ?_
                show J X mX8_byThoseThatStay d kc ks 57 [some (.ref 19), some (.int (nI s)), some (.int c), some (.int z3), some (.int (nI (c4 - 1))), some (.int x22), some (.int (nI (c6 - 1)))] [] w14 _
                refine J_goto (pc := 57) (tgt := 43) dX8_byThoseThatStay_57 (by decide) ?_
                exact J_sub (L' := [some (.ref 19), some (.int (nI s)), some (.int c), some (.int z3), some (.int (nI (c4 - 1))), some (.int x22), some (.int (nI (c6 - 1)))]) ⟨rfl, ⟨rfl, ⟨rfl, ⟨rfl, ⟨rfl, ⟨rfl, ⟨rfl, trivial⟩⟩⟩⟩⟩⟩⟩ (ihlp43_16 x22 (c6 - 1) (by first | assumption | omega) (by omega))
          exact J_sub (L' := [some (.ref 19), some (.int (nI s)), some (.int c), some (.int z3), some (.int (nI (c4 - 1))), some (.int (nI 1)), some (.int (nI k15))]) ⟨rfl, ⟨rfl, ⟨rfl, ⟨rfl, ⟨rfl, ⟨rfl, ⟨rfl, trivial⟩⟩⟩⟩⟩⟩⟩ (lp43_16 _ (nI 1) k15 (by first | assumption | omega) (Nat.lt_succ_self _))
    exact J_sub (L' := [some (.ref 19), some (.int (nI s)), some (.int c), some (.int (nI 0)), some (.int (nI 0 + Int32.ofInt (-1))), none, none]) ⟨rfl, ⟨rfl, ⟨rfl, ⟨rfl, ⟨(congrArg (fun z => some (Value.int z)) (by decide : (-1 : Int32) = nI 0 + Int32.ofInt (-1))), trivial⟩⟩⟩⟩⟩ (lp14_3 _ w rw (nI 0) 0 ⟨h19, h20, h21, h22, hbb, hbl, hb3⟩ hF gr (by first | assumption | omega) (Nat.lt_succ_self _))
  · refine J_istore (pc := 12) dX8_byThoseThatStay_12 (by decide) rfl ?_
    show J X mX8_byThoseThatStay d kc ks 14 [some (.ref 19), some (.int (nI s)), some (.int c), some (.int (nI 0)), some (.int (nI q2)), none, none] [] w _
    have lp14_23 : ∀ (fuel : Nat) (w24 : List jC) (rw_14 : Nat → Nat) (z3 : Int32) (c4 : Nat), (RM n mv rw_14 nx b bt kn en dn rf kk th w24) → (FR b b w w24) → (∀ i, rw_14 i < 7) → (c4 ≤ fc n) → (mu (fc n) c4 < fuel) → J X mX8_byThoseThatStay d kc ks 14 [some (.ref 19), some (.int (nI s)), some (.int c), some (.int z3), some (.int (nI c4 + Int32.ofInt (-1))), none, none] [] w24 (pI (fun _ => True) (fun w' => ∃ (rw' : Nat → Nat), RM n mv rw' nx b bt kn en dn rf kk th w' ∧ FR b b w w' ∧ (∀ i, rw' i < 7))) := by
      intro fuellp14_23
      induction fuellp14_23 with
      | zero => intros; omega
      | succ fuellp14_23 ihlp14_23 =>
        intro w24 rw_14 z3 c4 hR25 hF26 gr27 hv14_0 hf28
        obtain ⟨h19_29, h20_29, h21_29, h22_29, hb_29, hbl_29, hb3_29⟩ := hR25
        refine J_iload (pc := 14) dX8_byThoseThatStay_14 rfl ?_
        refine J_if_ltM (pc := 16) (tgt := 78) dX8_byThoseThatStay_16 (by decide) (by omega) (fun ht30 => ?_) (fun hf31 => ?_)
        · refine J_iload_n (pc := 78) dX8_byThoseThatStay_78 rfl rfl ?_
          refine J_aload_n (pc := 79) dX8_byThoseThatStay_79 rfl rfl rfl ?_
          refine J_callV0 (pc := 80) (M := mX8_byThoseThatStay) (as := []) dX8_byThoseThatStay_80 fw_X8_sizeNow fl_X8_102 fm_X8_sizeNow fe_X8_sizeNow h19_29 (by decide) rfl rfl rfl (c_X8_sizeNow hs (d := d - 1) (Nat.le_trans (by decide) hdm) (w := w24) (n := n) (mv := mv) (rw := rw_14) (nx := nx) (b := b) (bt := bt) (kn := kn) (en := en) (dn := dn) (rf := rf) (kk := kk) (th := th) ⟨h19_29, h20_29, h21_29, h22_29, hb_29, hbl_29, hb3_29⟩ hn1 hn2 gm gr27 gx  (kc := 0) (ks := 0)) hdp (st := [.int z3]) (Nat.le_of_ble_eq_true rfl) rfl (kr_P fun v32 hv32 => ?_) kx_I
          subst hv32
          have hsz := cnt_pos (P := bitL bt) 5056 0 (by decide) (BX_BT hn1 hn2 hBT).2
          have hsz2 := cnt_le (bitL bt) 5056
          refine J_idiv (pc := 83) dX8_byThoseThatStay_83 (nI_ne0 (by omega) (by omega)) (J_absI fun x33 => ?_)
          exact J_iret (pc := 84) dX8_byThoseThatStay_84 rfl ⟨trivial, ⟨rw_14, ⟨h19_29, h20_29, h21_29, h22_29, hb_29, hbl_29, hb3_29⟩, hF26, gr27⟩⟩
        · rw [nI_m1 hf31]
          refine J_aload_n (pc := 19) dX8_byThoseThatStay_19 rfl rfl rfl ?_
          refine J_iload (pc := 20) dX8_byThoseThatStay_20 rfl ?_
          refine J_aload_n (pc := 22) dX8_byThoseThatStay_22 rfl rfl rfl ?_
          refine J_get (pc := 23) (k := 2) dX8_byThoseThatStay_23 kC9 (by decide) ff_X8_17 h19_29 rfl ?_
          refine J_callV0 (pc := 26) (M := mX8_byThoseThatStay) (as := [.int (nI (c4 - 1)), .ref 21]) dX8_byThoseThatStay_26 fw_X8_rowOf fl_X8_78 fm_X8_rowOf fe_X8_rowOf h19_29 (by decide) rfl rfl rfl (c_X8_rowOf hs (d := d - 1) (Nat.le_trans (by decide) hdm) (w := w24) (n := n) (mv := mv) (rw := rw_14) (nx := nx) (b := b) (bt := bt) (kn := kn) (en := en) (dn := dn) (rf := rf) (kk := kk) (th := th) ⟨h19_29, h20_29, h21_29, h22_29, hb_29, hbl_29, hb3_29⟩ hn1 hn2 gm gr27 gx (c4 - 1) (by first | assumption | omega) (kc := 0) (ks := 0)) hdp (st := []) (Nat.le_of_ble_eq_true rfl) rfl (kr_V fun w34 hw34 => ?_) kx_V
          obtain ⟨rw34, hR34, hFc34, hgrw34, hp34_0⟩ := hw34
          obtain ⟨h19_34, h20_34, h21_34, h22_34, hbb_34, hbl_34, hb3_34⟩ := hR34
          have hF34 := hF26.tr hFc34
          have hPr := Pn_row (by omega) hp34_0
          refine J_iconst (pc := 29) (v := nI 1) dX8_byThoseThatStay_29 (by decide) ?_
          refine J_istore (pc := 30) dX8_byThoseThatStay_30 (by decide) rfl ?_
          show J X mX8_byThoseThatStay d kc ks 32 [some (.ref 19), some (.int (nI s)), some (.int c), some (.int z3), some (.int (nI (c4 - 1))), some (.int (nI 1)), none] [] w34 _
          refine J_aload_n (pc := 32) dX8_byThoseThatStay_32 rfl rfl rfl ?_
          refine J_aload_n (pc := 33) dX8_byThoseThatStay_33 rfl rfl rfl ?_
          refine J_get (pc := 34) (k := 2) dX8_byThoseThatStay_34 kC9 (by decide) ff_X8_17 h19_34 rfl ?_
          refine J_iconst (pc := 37) (v := nI 0) dX8_byThoseThatStay_37 (by decide) ?_
          refine J_callV0 (pc := 38) (M := mX8_byThoseThatStay) (as := [.ref 21, .int (nI 0)]) dX8_byThoseThatStay_38 fw_X8_ringsOf fl_X8_203 fm_X8_ringsOf fe_X8_ringsOf h19_34 (by decide) rfl rfl rfl (c_X8_ringsOf_at21 hs (d := d - 1) (Nat.le_trans (by decide) hdm) (w := w34) (n := n) (mv := mv) (rw := rw34) (nx := nx) (b := b) (bt := bt) (kn := kn) (en := en) (dn := dn) (rf := rf) (kk := kk) (th := th) ⟨h19_34, h20_34, h21_34, h22_34, hbb_34, hbl_34, hb3_34⟩ hn1 hn2 gm hgrw34 gx 0 (by first | assumption | omega) (by exact Pn_z hPr) (kc := 0) (ks := 0)) hdp (st := []) (Nat.le_of_ble_eq_true rfl) rfl (kr_P fun v35 hv35 => ?_) kx_I
          obtain ⟨k35, rfl, hk35⟩ := hv35
          refine J_istore (pc := 41) dX8_byThoseThatStay_41 (by decide) rfl ?_
          show J X mX8_byThoseThatStay d kc ks 43 [some (.ref 19), some (.int (nI s)), some (.int c), some (.int z3), some (.int (nI (c4 - 1))), some (.int (nI 1)), some (.int (nI k35))] [] w34 _
          have lp43_36 : ∀ (fuel : Nat) (z5 : Int32) (c6 : Nat), (c6 ≤ 7) → (c6 < fuel) → J X mX8_byThoseThatStay d kc ks 43 [some (.ref 19), some (.int (nI s)), some (.int c), some (.int z3), some (.int (nI (c4 - 1))), some (.int z5), some (.int (nI c6))] [] w34 (pI (fun _ => True) (fun w' => ∃ (rw' : Nat → Nat), RM n mv rw' nx b bt kn en dn rf kk th w' ∧ FR b b w w' ∧ (∀ i, rw' i < 7))) := by
            intro fuellp43_36
            induction fuellp43_36 with
            | zero => intros; omega
            | succ fuellp43_36 ihlp43_36 =>
              intro z5 c6 hv43_0 hf37
              refine J_iload (pc := 43) dX8_byThoseThatStay_43 rfl ?_
              refine J_if_leN (pc := 45) (tgt := 60) dX8_byThoseThatStay_45 (by decide) (by omega) (fun ht38 => ?_) (fun hf39 => ?_)
              · refine J_iload_n (pc := 60) dX8_byThoseThatStay_60 rfl rfl ?_
                refine J_iload (pc := 61) dX8_byThoseThatStay_61 rfl ?_
                refine J_iadd (pc := 63) dX8_byThoseThatStay_63 (J_absI fun x40 => ?_)
                refine J_istore_n (pc := 64) dX8_byThoseThatStay_64 rfl (by decide) rfl ?_
                show J X mX8_byThoseThatStay d kc ks 65 [some (.ref 19), some (.int (nI s)), some (.int c), some (.int x40), some (.int (nI (c4 - 1))), some (.int z5), some (.int (nI c6))] [] w34 _
                refine J_aload_n (pc := 65) dX8_byThoseThatStay_65 rfl rfl rfl ?_
                refine J_iload (pc := 66) dX8_byThoseThatStay_66 rfl ?_
                refine J_iconst (pc := 68) (v := nI 1) dX8_byThoseThatStay_68 (by decide) ?_
                refine J_iaddN (pc := 69) dX8_byThoseThatStay_69 ?_
                refine J_callV0 (pc := 70) (M := mX8_byThoseThatStay) (as := [.int (nI ((c4 - 1) + 1))]) dX8_byThoseThatStay_70 fw_X8_from fl_X8_137 fm_X8_from fe_X8_from h19_34 (by decide) rfl rfl rfl (c_X8_from hs (d := d - 1) (Nat.le_trans (by decide) hdm) (w := w34) (n := n) (mv := mv) (rw := rw34) (nx := nx) (b := b) (bt := bt) (kn := kn) (en := en) (dn := dn) (rf := rf) (kk := kk) (th := th) ⟨h19_34, h20_34, h21_34, h22_34, hbb_34, hbl_34, hb3_34⟩ hn1 hn2 gm hgrw34 gx ((c4 - 1) + 1) (by first | assumption | omega) (kc := 0) (ks := 0)) hdp (st := []) (Nat.le_of_ble_eq_true rfl) rfl (kr_P fun v41 hv41 => ?_) kx_I
                rcases hv41 with ⟨rfl, hk41_0⟩ | ⟨q41, rfl, hk41_0, hk41_1, hk41_2, hk41_3⟩
                · refine J_istore (pc := 73) dX8_byThoseThatStay_73 (by decide) rfl ?_
                  show J X mX8_byThoseThatStay d kc ks 75 [some (.ref 19), some (.int (nI s)), some (.int c), some (.int x40), some (.int (-1)), some (.int z5), some (.int (nI c6))] [] w34 _
                  refine J_goto (pc := 75) (tgt := 14) dX8_byThoseThatStay_75 (by decide) ?_
                  exact J_sub (L' := [some (.ref 19), some (.int (nI s)), some (.int c), some (.int x40), some (.int (nI 0 + Int32.ofInt (-1))), none, none]) ⟨rfl, ⟨rfl, ⟨rfl, ⟨rfl, ⟨(congrArg (fun z => some (Value.int z)) (by decide : (-1 : Int32) = nI 0 + Int32.ofInt (-1))), trivial⟩⟩⟩⟩⟩ (ihlp14_23 w34 rw34 x40 0 ⟨h19_34, h20_34, h21_34, h22_34, hbb_34, hbl_34, hb3_34⟩ hF34 hgrw34 (by first | assumption | omega) (by exact mu_dec (by assumption) (by omega) (by omega) (by omega)))
                · refine J_istore (pc := 73) dX8_byThoseThatStay_73 (by decide) rfl ?_
                  show J X mX8_byThoseThatStay d kc ks 75 [some (.ref 19), some (.int (nI s)), some (.int c), some (.int x40), some (.int (nI q41)), some (.int z5), some (.int (nI c6))] [] w34 _
                  refine J_goto (pc := 75) (tgt := 14) dX8_byThoseThatStay_75 (by decide) ?_
                  exact J_sub (L' := [some (.ref 19), some (.int (nI s)), some (.int c), some (.int x40), some (.int (nI (q41 + 1) + Int32.ofInt (-1))), none, none]) ⟨rfl, ⟨rfl, ⟨rfl, ⟨rfl, ⟨(congrArg (fun z => some (Value.int z)) (nI_n1 q41)), trivial⟩⟩⟩⟩⟩ (ihlp14_23 w34 rw34 x40 (q41 + 1) ⟨h19_34, h20_34, h21_34, h22_34, hbb_34, hbl_34, hb3_34⟩ hF34 hgrw34 (by first | assumption | omega) (by exact mu_dec (by assumption) (by omega) (by omega) (by omega)))
              · refine J_iload (pc := 48) dX8_byThoseThatStay_48 rfl ?_
                refine J_iload_n (pc := 50) dX8_byThoseThatStay_50 rfl rfl ?_
                refine J_imul (pc := 51) dX8_byThoseThatStay_51 (J_absI fun x42 => ?_)
                refine J_istore (pc := 52) dX8_byThoseThatStay_52 (by decide) rfl ?_
                show J X mX8_byThoseThatStay d kc ks 54 [some (.ref 19), some (.int (nI s)), some (.int c), some (.int z3), some (.int (nI (c4 - 1))), some (.int x42), some (.int (nI c6))] [] w34 _
                refine J_iincM (pc := 54) dX8_byThoseThatStay_54 rfl (by omega) (by decide) rfl ?_
                show J X mX8_byThoseThatStay d kc ks 57 [some (.ref 19), some (.int (nI s)), some (.int c), some (.int z3), some (.int (nI (c4 - 1))), some (.int x42), some (.int (nI (c6 - 1)))] [] w34 _
                refine J_goto (pc := 57) (tgt := 43) dX8_byThoseThatStay_57 (by decide) ?_
                exact J_sub (L' := [some (.ref 19), some (.int (nI s)), some (.int c), some (.int z3), some (.int (nI (c4 - 1))), some (.int x42), some (.int (nI (c6 - 1)))]) ⟨rfl, ⟨rfl, ⟨rfl, ⟨rfl, ⟨rfl, ⟨rfl, ⟨rfl, trivial⟩⟩⟩⟩⟩⟩⟩ (ihlp43_36 x42 (c6 - 1) (by first | assumption | omega) (by omega))
          exact J_sub (L' := [some (.ref 19), some (.int (nI s)), some (.int c), some (.int z3), some (.int (nI (c4 - 1))), some (.int (nI 1)), some (.int (nI k35))]) ⟨rfl, ⟨rfl, ⟨rfl, ⟨rfl, ⟨rfl, ⟨rfl, ⟨rfl, trivial⟩⟩⟩⟩⟩⟩⟩ (lp43_36 _ (nI 1) k35 (by first | assumption | omega) (Nat.lt_succ_self _))
    exact J_sub (L' := [some (.ref 19), some (.int (nI s)), some (.int c), some (.int (nI 0)), some (.int (nI (q2 + 1) + Int32.ofInt (-1))), none, none]) ⟨rfl, ⟨rfl, ⟨rfl, ⟨rfl, ⟨(congrArg (fun z => some (Value.int z)) (nI_n1 q2)), trivial⟩⟩⟩⟩⟩ (lp14_23 _ w rw (nI 0) (q2 + 1) ⟨h19, h20, h21, h22, hbb, hbl, hb3⟩ hF gr (by first | assumption | omega) (Nat.lt_succ_self _))
set_option maxRecDepth 100000 in
set_option maxHeartbeats 4000000 in
theorem c_X8_size {X : jX} (hs : X.1.stackTraces = false) {d : Nat} (hd : 5 ≤ d) {n : Nat} {mv rw nx : Nat → Nat} {b : Nat} {bt : List Int32} {kn en dn rf kk th : Int32} {w : List jC} (hR : RM n mv rw nx b bt kn en dn rf kk th w) (hn1 : 2 ≤ n) (hn2 : n ≤ 7) (gm : ∀ i, mv i < 7) (gr : ∀ i, rw i < 7) (gx : ∀ i, nx i < 7) (s : Int32) (a : Int32) (hy0 : PM n mv) (hy1 : KX n mv kn bt) {kc ks : Nat} (hkc : 13 ≤ kc) (hks : 2054 ≤ ks) : jMet X mX8_size d kc ks [.ref 19, .int s, .int a] w (pI (fun _ => True) (fun w' => ∃ (rw' : Nat → Nat), ∃ (nx' : Nat → Nat), ∃ (b' : Nat), ∃ (bt' : List Int32), ∃ (kn' : Int32), ∃ (en' : Int32), ∃ (th' : Int32), RM n mv rw' nx' b' bt' kn' en' dn rf kk th' w' ∧ FR b b' w w' ∧ (∀ i, rw' i < 7) ∧ (∀ i, nx' i < 7) ∧ KX n mv kn' bt')) := by
  refine jMet_of hs (by decide +kernel) (Nat.le_of_ble_eq_true rfl) (L := [some (.ref 19), some (.int s), some (.int a)]) rfl ?_
  have hdm : 4 ≤ d - 1 := by omega
  have hdp : d - 1 + 1 ≤ d := by omega
  have hfc := fc_7 hn2
  have hfp := fc_pos n
  obtain ⟨h19, h20, h21, h22, hbb, hbl, hb3⟩ := hR
  have hF : FR b b w w := FR.rf
  refine J_aload_n (pc := 0) dX8_size_0 rfl rfl rfl ?_
  refine J_iload_n (pc := 1) dX8_size_1 rfl rfl ?_
  refine J_callS0 (pc := 2) (M := mX8_size) (as := [.int a]) dX8_size_2 fw_X8_isCell fl_X8_108 fs_X8_isCell rfl (c_X8_isCell hs (d := d - 1) (Nat.le_trans (by decide) hdm) (w := w) a (kc := 0) (ks := 0)) hdp (st := [.ref 19]) (Nat.le_of_ble_eq_true rfl) rfl (kr_P fun v1 hv1 => ?_) kx_I
  rcases hv1 with ⟨rfl, hk1_0⟩ | ⟨q1, rfl, hk1_0, rfl⟩
  · refine J_if_neN (pc := 5) (tgt := 12) dX8_size_5 (by decide) (by decide) (fun h => absurd h (by decide)) (fun _ => ?_)
    refine J_iconst (pc := 8) (v := nI 1) dX8_size_8 (by decide) ?_
    refine J_goto (pc := 9) (tgt := 13) dX8_size_9 (by decide) ?_
    refine J_iload_n (pc := 13) dX8_size_13 rfl rfl ?_
    refine J_callS0 (pc := 14) (M := mX8_size) (as := [.int s]) dX8_size_14 fw_X8_isSet fl_X8_134 fs_X8_isSet rfl (c_X8_isSet hs (d := d - 1) (Nat.le_trans (by decide) hdm) (w := w) s (kc := 0) (ks := 0)) hdp (st := [.int (nI 1), .ref 19]) (Nat.le_of_ble_eq_true rfl) rfl (kr_P fun v2 hv2 => ?_) kx_I
    rcases hv2 with ⟨rfl, hk2_0⟩ | ⟨q2, rfl, hk2_0, rfl⟩
    · refine J_if_neN (pc := 17) (tgt := 24) dX8_size_17 (by decide) (by decide) (fun h => absurd h (by decide)) (fun _ => ?_)
      refine J_iconst (pc := 20) (v := nI 1) dX8_size_20 (by decide) ?_
      refine J_goto (pc := 21) (tgt := 25) dX8_size_21 (by decide) ?_
      refine J_callV0 (pc := 25) (M := mX8_size) (as := [.int (nI 1), .int (nI 1)]) dX8_size_25 fw_X8_isThrown fl_X8_35 fm_X8_isThrown fe_X8_isThrown h19 (by decide) rfl rfl rfl (c_X8_isThrown hs (d := d - 1) (Nat.le_trans (by decide) hdm) (w := w) (n := n) (mv := mv) (rw := rw) (nx := nx) (b := b) (bt := bt) (kn := kn) (en := en) (dn := dn) (rf := rf) (kk := kk) (th := th) ⟨h19, h20, h21, h22, hbb, hbl, hb3⟩ hn1 hn2 gm gr gx 1 1 (by first | assumption | omega) (by first | assumption | omega) (kc := 0) (ks := 0)) hdp (st := []) (Nat.le_of_ble_eq_true rfl) rfl (kr_I fun v3 w3 hv3 hw3 => ?_) kx_I
      obtain ⟨hR3, hFc3⟩ := hw3
      obtain ⟨h19_3, h20_3, h21_3, h22_3, hbb_3, hbl_3, hb3_3⟩ := hR3
      have hF3 := hF.tr hFc3
      subst hv3
      show J X mX8_size d kc ks 28 [some (.ref 19), some (.int s), some (.int a)] [.int (nI 1)] w3 _
      refine J_if_eqN (pc := 28) (tgt := 35) dX8_size_28 (by decide) (by decide) (fun h => absurd h (by decide)) (fun _ => ?_)
      refine J_iconst (pc := 31) (v := nI 0) dX8_size_31 (by decide) ?_
      refine J_goto (pc := 32) (tgt := 40) dX8_size_32 (by decide) ?_
      exact J_iret (pc := 40) dX8_size_40 rfl ⟨trivial, ⟨rw, nx, b, bt, kn, en, nI (tW 1 1), ⟨h19_3, h20_3, h21_3, h22_3, hbb_3, hbl_3, hb3_3⟩, hF3, gr, gx, (by first | assumption | exact KX_i (by assumption) (by omega) (by first | rfl | assumption))⟩⟩
    · refine J_if_neN (pc := 17) (tgt := 24) dX8_size_17 (by decide) (by decide) (fun _ => ?_) (fun h => absurd h (by decide))
      refine J_iconst (pc := 24) (v := nI 0) dX8_size_24 (by decide) ?_
      refine J_callV0 (pc := 25) (M := mX8_size) (as := [.int (nI 1), .int (nI 0)]) dX8_size_25 fw_X8_isThrown fl_X8_35 fm_X8_isThrown fe_X8_isThrown h19 (by decide) rfl rfl rfl (c_X8_isThrown hs (d := d - 1) (Nat.le_trans (by decide) hdm) (w := w) (n := n) (mv := mv) (rw := rw) (nx := nx) (b := b) (bt := bt) (kn := kn) (en := en) (dn := dn) (rf := rf) (kk := kk) (th := th) ⟨h19, h20, h21, h22, hbb, hbl, hb3⟩ hn1 hn2 gm gr gx 1 0 (by first | assumption | omega) (by first | assumption | omega) (kc := 0) (ks := 0)) hdp (st := []) (Nat.le_of_ble_eq_true rfl) rfl (kr_I fun v4 w4 hv4 hw4 => ?_) kx_I
      obtain ⟨hR4, hFc4⟩ := hw4
      obtain ⟨h19_4, h20_4, h21_4, h22_4, hbb_4, hbl_4, hb3_4⟩ := hR4
      have hF4 := hF.tr hFc4
      subst hv4
      show J X mX8_size d kc ks 28 [some (.ref 19), some (.int (nI q2)), some (.int a)] [.int (nI 1)] w4 _
      refine J_if_eqN (pc := 28) (tgt := 35) dX8_size_28 (by decide) (by decide) (fun h => absurd h (by decide)) (fun _ => ?_)
      refine J_iconst (pc := 31) (v := nI 0) dX8_size_31 (by decide) ?_
      refine J_goto (pc := 32) (tgt := 40) dX8_size_32 (by decide) ?_
      exact J_iret (pc := 40) dX8_size_40 rfl ⟨trivial, ⟨rw, nx, b, bt, kn, en, nI (tW 1 0), ⟨h19_4, h20_4, h21_4, h22_4, hbb_4, hbl_4, hb3_4⟩, hF4, gr, gx, (by first | assumption | exact KX_i (by assumption) (by omega) (by first | rfl | assumption))⟩⟩
  · refine J_if_neN (pc := 5) (tgt := 12) dX8_size_5 (by decide) (by decide) (fun _ => ?_) (fun h => absurd h (by decide))
    refine J_iconst (pc := 12) (v := nI 0) dX8_size_12 (by decide) ?_
    refine J_iload_n (pc := 13) dX8_size_13 rfl rfl ?_
    refine J_callS0 (pc := 14) (M := mX8_size) (as := [.int s]) dX8_size_14 fw_X8_isSet fl_X8_134 fs_X8_isSet rfl (c_X8_isSet hs (d := d - 1) (Nat.le_trans (by decide) hdm) (w := w) s (kc := 0) (ks := 0)) hdp (st := [.int (nI 0), .ref 19]) (Nat.le_of_ble_eq_true rfl) rfl (kr_P fun v5 hv5 => ?_) kx_I
    rcases hv5 with ⟨rfl, hk5_0⟩ | ⟨q5, rfl, hk5_0, rfl⟩
    · refine J_if_neN (pc := 17) (tgt := 24) dX8_size_17 (by decide) (by decide) (fun h => absurd h (by decide)) (fun _ => ?_)
      refine J_iconst (pc := 20) (v := nI 1) dX8_size_20 (by decide) ?_
      refine J_goto (pc := 21) (tgt := 25) dX8_size_21 (by decide) ?_
      refine J_callV0 (pc := 25) (M := mX8_size) (as := [.int (nI 0), .int (nI 1)]) dX8_size_25 fw_X8_isThrown fl_X8_35 fm_X8_isThrown fe_X8_isThrown h19 (by decide) rfl rfl rfl (c_X8_isThrown hs (d := d - 1) (Nat.le_trans (by decide) hdm) (w := w) (n := n) (mv := mv) (rw := rw) (nx := nx) (b := b) (bt := bt) (kn := kn) (en := en) (dn := dn) (rf := rf) (kk := kk) (th := th) ⟨h19, h20, h21, h22, hbb, hbl, hb3⟩ hn1 hn2 gm gr gx 0 1 (by first | assumption | omega) (by first | assumption | omega) (kc := 0) (ks := 0)) hdp (st := []) (Nat.le_of_ble_eq_true rfl) rfl (kr_I fun v6 w6 hv6 hw6 => ?_) kx_I
      obtain ⟨hR6, hFc6⟩ := hw6
      obtain ⟨h19_6, h20_6, h21_6, h22_6, hbb_6, hbl_6, hb3_6⟩ := hR6
      have hF6 := hF.tr hFc6
      subst hv6
      show J X mX8_size d kc ks 28 [some (.ref 19), some (.int s), some (.int (nI q1))] [.int (nI 1)] w6 _
      refine J_if_eqN (pc := 28) (tgt := 35) dX8_size_28 (by decide) (by decide) (fun h => absurd h (by decide)) (fun _ => ?_)
      refine J_iconst (pc := 31) (v := nI 0) dX8_size_31 (by decide) ?_
      refine J_goto (pc := 32) (tgt := 40) dX8_size_32 (by decide) ?_
      exact J_iret (pc := 40) dX8_size_40 rfl ⟨trivial, ⟨rw, nx, b, bt, kn, en, nI (tW 0 1), ⟨h19_6, h20_6, h21_6, h22_6, hbb_6, hbl_6, hb3_6⟩, hF6, gr, gx, (by first | assumption | exact KX_i (by assumption) (by omega) (by first | rfl | assumption))⟩⟩
    · refine J_if_neN (pc := 17) (tgt := 24) dX8_size_17 (by decide) (by decide) (fun _ => ?_) (fun h => absurd h (by decide))
      refine J_iconst (pc := 24) (v := nI 0) dX8_size_24 (by decide) ?_
      refine J_callV0 (pc := 25) (M := mX8_size) (as := [.int (nI 0), .int (nI 0)]) dX8_size_25 fw_X8_isThrown fl_X8_35 fm_X8_isThrown fe_X8_isThrown h19 (by decide) rfl rfl rfl (c_X8_isThrown hs (d := d - 1) (Nat.le_trans (by decide) hdm) (w := w) (n := n) (mv := mv) (rw := rw) (nx := nx) (b := b) (bt := bt) (kn := kn) (en := en) (dn := dn) (rf := rf) (kk := kk) (th := th) ⟨h19, h20, h21, h22, hbb, hbl, hb3⟩ hn1 hn2 gm gr gx 0 0 (by first | assumption | omega) (by first | assumption | omega) (kc := 0) (ks := 0)) hdp (st := []) (Nat.le_of_ble_eq_true rfl) rfl (kr_I fun v7 w7 hv7 hw7 => ?_) kx_I
      obtain ⟨hR7, hFc7⟩ := hw7
      obtain ⟨h19_7, h20_7, h21_7, h22_7, hbb_7, hbl_7, hb3_7⟩ := hR7
      have hF7 := hF.tr hFc7
      subst hv7
      show J X mX8_size d kc ks 28 [some (.ref 19), some (.int (nI q5)), some (.int (nI q1))] [.int (nI 0)] w7 _
      refine J_if_eqN (pc := 28) (tgt := 35) dX8_size_28 (by decide) (by decide) (fun _ => ?_) (fun h => absurd h (by decide))
      refine J_aload_n (pc := 35) dX8_size_35 rfl rfl rfl ?_
      refine J_iload_n (pc := 36) dX8_size_36 rfl rfl ?_
      refine J_callV (pc := 37) (M := mX8_size) (as := [.int (nI q5)]) dX8_size_37 fw_X8_sizeOf fl_X8_178 fm_X8_sizeOf fe_X8_sizeOf h19_7 (by decide) rfl rfl rfl (c_X8_sizeOf hs (d := d - 1) (Nat.le_trans (by decide) hdm) (w := w7) (n := n) (mv := mv) (rw := rw) (nx := nx) (b := b) (bt := bt) (kn := kn) (en := en) (dn := dn) (rf := rf) (kk := kk) (th := nI (tW 0 0)) ⟨h19_7, h20_7, h21_7, h22_7, hbb_7, hbl_7, hb3_7⟩ hn1 hn2 gm gr gx q5 (by first | assumption | omega) (by first | assumption | omega) (by first | assumption | omega) (kc := 13) (ks := 2054) (Nat.le_refl _) (Nat.le_refl _)) hdp (by omega) (by omega) (st := []) (Nat.le_of_ble_eq_true rfl) rfl (kr_I fun v8 w8 hv8 hw8 => ?_) kx_I
      obtain ⟨rw8, nx8, b8, bt8, kn8, en8, hR8, hFc8, hgrw8, hgnx8, hp8_0, hp8_1⟩ := hw8
      obtain ⟨h19_8, h20_8, h21_8, h22_8, hbb_8, hbl_8, hb3_8⟩ := hR8
      have qd8 := hFc8.2.1
      have hF8 := hF7.tr hFc8
      obtain ⟨k8, rfl, hk8⟩ := hv8
      exact J_iret (pc := 40) dX8_size_40 rfl ⟨trivial, ⟨rw8, nx8, b8, bt8, kn8, en8, nI (tW 0 0), ⟨h19_8, h20_8, h21_8, h22_8, hbb_8, hbl_8, hb3_8⟩, hF8, hgrw8, hgnx8, (by first | assumption | exact KX_i (by assumption) (by omega) (by first | rfl | assumption))⟩⟩
end
