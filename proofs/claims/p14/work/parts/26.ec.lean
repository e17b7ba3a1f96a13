/-! contracts of the reference: rspec4 -/
set_option maxRecDepth 100000 in
set_option maxHeartbeats 4000000 in
theorem c_X8_reachNow_atk {X : jX} (hs : X.1.stackTraces = false) {d : Nat} (hd : 4 ≤ d) {n : Nat} {mv rw nx : Nat → Nat} {b : Nat} {bt : List Int32} {kn en dn rf kk th : Int32} {w : List jC} (hR : RM n mv rw nx b bt kn en dn rf kk th w) (hn1 : 2 ≤ n) (hn2 : n ≤ 7) (gm : ∀ i, mv i < 7) (gr : ∀ i, rw i < 7) (gx : ∀ i, nx i < 7) (s : Nat) (a : Nat) (c : Nat) (hy0 : s < 64) (hy1 : kn = nI s) (hy2 : BX n mv s bt) (hy3 : PM n mv) (hy4 : a < 6) (hy5 : c < 7) {kc ks : Nat} : jMet X mX8_reachNow d kc ks [.ref 19, .int (nI s), .int (nI a), .int (nI c)] w (pI (fun _ => True) (fun w' => ∃ (rw' : Nat → Nat), RM n mv rw' nx b bt kn en dn rf kk th w' ∧ FR b b w w' ∧ (∀ i, rw' i < 7))) := by
  refine jMet_of hs (by decide +kernel) (Nat.le_of_ble_eq_true rfl) (L := [some (.ref 19), some (.int (nI s)), some (.int (nI a)), some (.int (nI c)), none, none, none, none]) rfl ?_
  have hdm : 3 ≤ d - 1 := by omega
  have hdp : d - 1 + 1 ≤ d := by omega
  have hfc := fc_7 hn2
  have hfp := fc_pos n
  obtain ⟨h19, h20, h21, h22, hbb, hbl, hb3⟩ := hR
  have hF : FR b b w w := FR.rf
  refine J_aload_n (pc := 0) dX8_reachNow_0 rfl rfl rfl ?_
  refine J_iload_n (pc := 1) dX8_reachNow_1 rfl rfl ?_
  refine J_callV0 (pc := 2) (M := mX8_reachNow) (as := [.int (nI s)]) dX8_reachNow_2 fw_X8_group fl_X8_99 fm_X8_group fe_X8_group h19 (by decide) rfl rfl rfl (c_X8_group_atk hs (d := d - 1) (Nat.le_trans (by decide) hdm) (w := w) (n := n) (mv := mv) (rw := rw) (nx := nx) (b := b) (bt := bt) (kn := kn) (en := en) (dn := dn) (rf := rf) (kk := kk) (th := th) ⟨h19, h20, h21, h22, hbb, hbl, hb3⟩ hn1 hn2 gm gr gx s (by first | assumption | omega) (by first | assumption | omega) (kc := 0) (ks := 0)) hdp (st := []) (Nat.le_of_ble_eq_true rfl) rfl (kr_V fun w1 hw1 => ?_) kx_V
  obtain rfl := hw1.symm
  refine J_iconst (pc := 5) (v := nI 0) dX8_reachNow_5 (by decide) ?_
  refine J_istore (pc := 6) dX8_reachNow_6 (by decide) rfl ?_
  show J X mX8_reachNow d kc ks 8 [some (.ref 19), some (.int (nI s)), some (.int (nI a)), some (.int (nI c)), some (.int (nI 0)), none, none, none] [] w _
  refine J_aload_n (pc := 8) dX8_reachNow_8 rfl rfl rfl ?_
  refine J_iconst (pc := 9) (v := nI 0) dX8_reachNow_9 (by decide) ?_
  refine J_callV0 (pc := 10) (M := mX8_reachNow) (as := [.int (nI 0)]) dX8_reachNow_10 fw_X8_from fl_X8_137 fm_X8_from fe_X8_from h19 (by decide) rfl rfl rfl (c_X8_from hs (d := d - 1) (Nat.le_trans (by decide) hdm) (w := w) (n := n) (mv := mv) (rw := rw) (nx := nx) (b := b) (bt := bt) (kn := kn) (en := en) (dn := dn) (rf := rf) (kk := kk) (th := th) ⟨h19, h20, h21, h22, hbb, hbl, hb3⟩ hn1 hn2 gm gr gx 0 (by first | assumption | omega) (kc := 0) (ks := 0)) hdp (st := []) (Nat.le_of_ble_eq_true rfl) rfl (kr_P fun v2 hv2 => ?_) kx_I
  rcases hv2 with ⟨rfl, hk2_0⟩ | ⟨q2, rfl, hk2_0, hk2_1, hk2_2, hk2_3⟩
  · refine J_istore (pc := 13) dX8_reachNow_13 (by decide) rfl ?_
    show J X mX8_reachNow d kc ks 15 [some (.ref 19), some (.int (nI s)), some (.int (nI a)), some (.int (nI c)), some (.int (nI 0)), some (.int (-1)), none, none] [] w _
    have lp15_3 : ∀ (fuel : Nat) (w4 : List jC) (rw_15 : Nat → Nat) (z4 : Int32) (c5 : Nat), (RM n mv rw_15 nx b bt kn en dn rf kk th w4) → (FR b b w w4) → (∀ i, rw_15 i < 7) → (c5 ≤ fc n) → (mu (fc n) c5 < fuel) → J X mX8_reachNow d kc ks 15 [some (.ref 19), some (.int (nI s)), some (.int (nI a)), some (.int (nI c)), some (.int z4), some (.int (nI c5 + Int32.ofInt (-1))), none, none] [] w4 (pI (fun _ => True) (fun w' => ∃ (rw' : Nat → Nat), RM n mv rw' nx b bt kn en dn rf kk th w' ∧ FR b b w w' ∧ (∀ i, rw' i < 7))) := by
      intro fuellp15_3
      induction fuellp15_3 with
      | zero => intros; omega
      | succ fuellp15_3 ihlp15_3 =>
        intro w4 rw_15 z4 c5 hR5 hF6 gr7 hv15_0 hf8
        obtain ⟨h19_9, h20_9, h21_9, h22_9, hb_9, hbl_9, hb3_9⟩ := hR5
        refine J_iload (pc := 15) dX8_reachNow_15 rfl ?_
        refine J_if_ltM (pc := 17) (tgt := 116) dX8_reachNow_17 (by decide) (by omega) (fun ht10 => ?_) (fun hf11 => ?_)
        · refine J_iload (pc := 116) dX8_reachNow_116 rfl ?_
          exact J_iret (pc := 118) dX8_reachNow_118 rfl ⟨trivial, ⟨rw_15, ⟨h19_9, h20_9, h21_9, h22_9, hb_9, hbl_9, hb3_9⟩, hF6, gr7⟩⟩
        · rw [nI_m1 hf11]
          refine J_aload_n (pc := 20) dX8_reachNow_20 rfl rfl rfl ?_
          refine J_iload (pc := 21) dX8_reachNow_21 rfl ?_
          refine J_aload_n (pc := 23) dX8_reachNow_23 rfl rfl rfl ?_
          refine J_get (pc := 24) (k := 2) dX8_reachNow_24 kC9 (by decide) ff_X8_17 h19_9 rfl ?_
          refine J_callV0 (pc := 27) (M := mX8_reachNow) (as := [.int (nI (c5 - 1)), .ref 21]) dX8_reachNow_27 fw_X8_rowOf fl_X8_78 fm_X8_rowOf fe_X8_rowOf h19_9 (by decide) rfl rfl rfl (c_X8_rowOf hs (d := d - 1) (Nat.le_trans (by decide) hdm) (w := w4) (n := n) (mv := mv) (rw := rw_15) (nx := nx) (b := b) (bt := bt) (kn := kn) (en := en) (dn := dn) (rf := rf) (kk := kk) (th := th) ⟨h19_9, h20_9, h21_9, h22_9, hb_9, hbl_9, hb3_9⟩ hn1 hn2 gm gr7 gx (c5 - 1) (by first | assumption | omega) (kc := 0) (ks := 0)) hdp (st := []) (Nat.le_of_ble_eq_true rfl) rfl (kr_V fun w12 hw12 => ?_) kx_V
          obtain ⟨rw12, hR12, hFc12, hgrw12, hp12_0⟩ := hw12
          obtain ⟨h19_12, h20_12, h21_12, h22_12, hbb_12, hbl_12, hb3_12⟩ := hR12
          have hF12 := hF6.tr hFc12
          refine J_iconst (pc := 30) (v := nI 1) dX8_reachNow_30 (by decide) ?_
          refine J_istore (pc := 31) dX8_reachNow_31 (by decide) rfl ?_
          show J X mX8_reachNow d kc ks 33 [some (.ref 19), some (.int (nI s)), some (.int (nI a)), some (.int (nI c)), some (.int z4), some (.int (nI (c5 - 1))), some (.int (nI 1)), none] [] w12 _
          refine J_iconst (pc := 33) (v := nI 0) dX8_reachNow_33 (by decide) ?_
          refine J_istore (pc := 34) dX8_reachNow_34 (by decide) rfl ?_
          show J X mX8_reachNow d kc ks 36 [some (.ref 19), some (.int (nI s)), some (.int (nI a)), some (.int (nI c)), some (.int z4), some (.int (nI (c5 - 1))), some (.int (nI 1)), some (.int (nI 0))] [] w12 _
          have lp36_13 : ∀ (fuel : Nat) (y6 : Nat) (c7 : Nat), (y6 < 2) → (c7 ≤ c) → (c - c7 < fuel) → J X mX8_reachNow d kc ks 36 [some (.ref 19), some (.int (nI s)), some (.int (nI a)), some (.int (nI c)), some (.int z4), some (.int (nI (c5 - 1))), some (.int (nI y6)), some (.int (nI c7))] [] w12 (pI (fun _ => True) (fun w' => ∃ (rw' : Nat → Nat), RM n mv rw' nx b bt kn en dn rf kk th w' ∧ FR b b w w' ∧ (∀ i, rw' i < 7))) := by
            intro fuellp36_13
            induction fuellp36_13 with
            | zero => intros; omega
            | succ fuellp36_13 ihlp36_13 =>
              intro y6 c7 hv36_0 hv36_1 hf14
              refine J_iload (pc := 36) dX8_reachNow_36 rfl ?_
              refine J_iload_n (pc := 38) dX8_reachNow_38 rfl rfl ?_
              refine J_icmp_geN (pc := 39) (tgt := 80) dX8_reachNow_39 (by decide) (by omega) (by omega) (fun ht15 => ?_) (fun hf16 => ?_)
              · refine J_iload (pc := 80) dX8_reachNow_80 rfl ?_
                refine J_if_eqN (pc := 82) (tgt := 103) dX8_reachNow_82 (by decide) (by omega) (fun ht17 => ?_) (fun hf18 => ?_)
                · refine J_aload_n (pc := 103) dX8_reachNow_103 rfl rfl rfl ?_
                  refine J_iload (pc := 104) dX8_reachNow_104 rfl ?_
                  refine J_iconst (pc := 106) (v := nI 1) dX8_reachNow_106 (by decide) ?_
                  refine J_iaddN (pc := 107) dX8_reachNow_107 ?_
                  refine J_callV0 (pc := 108) (M := mX8_reachNow) (as := [.int (nI ((c5 - 1) + 1))]) dX8_reachNow_108 fw_X8_from fl_X8_137 fm_X8_from fe_X8_from h19_12 (by decide) rfl rfl rfl (c_X8_from hs (d := d - 1) (Nat.le_trans (by decide) hdm) (w := w12) (n := n) (mv := mv) (rw := rw12) (nx := nx) (b := b) (bt := bt) (kn := kn) (en := en) (dn := dn) (rf := rf) (kk := kk) (th := th) ⟨h19_12, h20_12, h21_12, h22_12, hbb_12, hbl_12, hb3_12⟩ hn1 hn2 gm hgrw12 gx ((c5 - 1) + 1) (by first | assumption | omega) (kc := 0) (ks := 0)) hdp (st := []) (Nat.le_of_ble_eq_true rfl) rfl (kr_P fun v19 hv19 => ?_) kx_I
                  rcases hv19 with ⟨rfl, hk19_0⟩ | ⟨q19, rfl, hk19_0, hk19_1, hk19_2, hk19_3⟩
                  · refine J_istore (pc := 111) dX8_reachNow_111 (by decide) rfl ?_
                    show J X mX8_reachNow d kc ks 113 [some (.ref 19), some (.int (nI s)), some (.int (nI a)), some (.int (nI c)), some (.int z4), some (.int (-1)), some (.int (nI y6)), some (.int (nI c7))] [] w12 _
                    refine J_goto (pc := 113) (tgt := 15) dX8_reachNow_113 (by decide) ?_
                    exact J_sub (L' := [some (.ref 19), some (.int (nI s)), some (.int (nI a)), some (.int (nI c)), some (.int z4), some (.int (nI 0 + Int32.ofInt (-1))), none, none]) ⟨rfl, ⟨rfl, ⟨rfl, ⟨rfl, ⟨rfl, ⟨(congrArg (fun z => some (Value.int z)) (by decide : (-1 : Int32) = nI 0 + Int32.ofInt (-1))), trivial⟩⟩⟩⟩⟩⟩ (ihlp15_3 w12 rw12 z4 0 ⟨h19_12, h20_12, h21_12, h22_12, hbb_12, hbl_12, hb3_12⟩ hF12 hgrw12 (by first | assumption | omega) (by exact mu_dec (by assumption) (by omega) (by omega) (by omega)))
                  · refine J_istore (pc := 111) dX8_reachNow_111 (by decide) rfl ?_
                    show J X mX8_reachNow d kc ks 113 [some (.ref 19), some (.int (nI s)), some (.int (nI a)), some (.int (nI c)), some (.int z4), some (.int (nI q19)), some (.int (nI y6)), some (.int (nI c7))] [] w12 _
                    refine J_goto (pc := 113) (tgt := 15) dX8_reachNow_113 (by decide) ?_
                    exact J_sub (L' := [some (.ref 19), some (.int (nI s)), some (.int (nI a)), some (.int (nI c)), some (.int z4), some (.int (nI (q19 + 1) + Int32.ofInt (-1))), none, none]) ⟨rfl, ⟨rfl, ⟨rfl, ⟨rfl, ⟨rfl, ⟨(congrArg (fun z => some (Value.int z)) (nI_n1 q19)), trivial⟩⟩⟩⟩⟩⟩ (ihlp15_3 w12 rw12 z4 (q19 + 1) ⟨h19_12, h20_12, h21_12, h22_12, hbb_12, hbl_12, hb3_12⟩ hF12 hgrw12 (by first | assumption | omega) (by exact mu_dec (by assumption) (by omega) (by omega) (by omega)))
                · refine J_iload (pc := 85) dX8_reachNow_85 rfl ?_
                  refine J_iconst (pc := 87) (v := nI 1) dX8_reachNow_87 (by decide) ?_
                  refine J_aload_n (pc := 88) dX8_reachNow_88 rfl rfl rfl ?_
                  refine J_get (pc := 89) (k := 2) dX8_reachNow_89 kC9 (by decide) ff_X8_17 h19_12 rfl ?_
                  refine J_aload_n (pc := 92) dX8_reachNow_92 rfl rfl rfl ?_
                  refine J_iload_n (pc := 93) dX8_reachNow_93 rfl rfl ?_
                  refine J_iload_n (pc := 94) dX8_reachNow_94 rfl rfl ?_
                  refine J_callV0 (pc := 95) (M := mX8_reachNow) (as := [.int (nI a), .int (nI c)]) dX8_reachNow_95 fw_X8_at fl_X8_82 fm_X8_at fe_X8_at h19_12 (by decide) rfl rfl rfl (c_X8_at hs (d := d - 1) (Nat.le_trans (by decide) hdm) (w := w12) (n := n) (mv := mv) (rw := rw12) (nx := nx) (b := b) (bt := bt) (kn := kn) (en := en) (dn := dn) (rf := rf) (kk := kk) (th := th) ⟨h19_12, h20_12, h21_12, h22_12, hbb_12, hbl_12, hb3_12⟩ hn1 hn2 gm hgrw12 gx a c (by first | assumption | omega) (by first | assumption | omega) (kc := 0) (ks := 0)) hdp (st := [.ref 21, .int (nI 1), .int z4]) (Nat.le_of_ble_eq_true rfl) rfl (kr_P fun v20 hv20 => ?_) kx_I
                  subst hv20
                  have hq21 := gm (a * 7 + c)
                  refine J_ialdF (pc := 98) dX8_reachNow_98 h21_12 (by omega) (by decide) ?_
                  have hq22 := hgrw12 (mv (a * 7 + c))
                  refine J_ishl (pc := 99) dX8_reachNow_99 (J_absI fun x23 => ?_)
                  refine J_ior (pc := 100) dX8_reachNow_100 (J_absI fun x24 => ?_)
                  refine J_istore (pc := 101) dX8_reachNow_101 (by decide) rfl ?_
                  show J X mX8_reachNow d kc ks 103 [some (.ref 19), some (.int (nI s)), some (.int (nI a)), some (.int (nI c)), some (.int x24), some (.int (nI (c5 - 1))), some (.int (nI y6)), some (.int (nI c7))] [] w12 _
                  refine J_aload_n (pc := 103) dX8_reachNow_103 rfl rfl rfl ?_
                  refine J_iload (pc := 104) dX8_reachNow_104 rfl ?_
                  refine J_iconst (pc := 106) (v := nI 1) dX8_reachNow_106 (by decide) ?_
                  refine J_iaddN (pc := 107) dX8_reachNow_107 ?_
                  refine J_callV0 (pc := 108) (M := mX8_reachNow) (as := [.int (nI ((c5 - 1) + 1))]) dX8_reachNow_108 fw_X8_from fl_X8_137 fm_X8_from fe_X8_from h19_12 (by decide) rfl rfl rfl (c_X8_from hs (d := d - 1) (Nat.le_trans (by decide) hdm) (w := w12) (n := n) (mv := mv) (rw := rw12) (nx := nx) (b := b) (bt := bt) (kn := kn) (en := en) (dn := dn) (rf := rf) (kk := kk) (th := th) ⟨h19_12, h20_12, h21_12, h22_12, hbb_12, hbl_12, hb3_12⟩ hn1 hn2 gm hgrw12 gx ((c5 - 1) + 1) (by first | assumption | omega) (kc := 0) (ks := 0)) hdp (st := []) (Nat.le_of_ble_eq_true rfl) rfl (kr_P fun v25 hv25 => ?_) kx_I
                  rcases hv25 with ⟨rfl, hk25_0⟩ | ⟨q25, rfl, hk25_0, hk25_1, hk25_2, hk25_3⟩
                  · refine J_istore (pc := 111) dX8_reachNow_111 (by decide) rfl ?_
                    show J X mX8_reachNow d kc ks 113 [some (.ref 19), some (.int (nI s)), some (.int (nI a)), some (.int (nI c)), some (.int x24), some (.int (-1)), some (.int (nI y6)), some (.int (nI c7))] [] w12 _
                    refine J_goto (pc := 113) (tgt := 15) dX8_reachNow_113 (by decide) ?_
                    exact J_sub (L' := [some (.ref 19), some (.int (nI s)), some (.int (nI a)), some (.int (nI c)), some (.int x24), some (.int (nI 0 + Int32.ofInt (-1))), none, none]) ⟨rfl, ⟨rfl, ⟨rfl, ⟨rfl, ⟨rfl, ⟨(congrArg (fun z => some (Value.int z)) (by decide : (-1 : Int32) = nI 0 + Int32.ofInt (-1))), trivial⟩⟩⟩⟩⟩⟩ (ihlp15_3 w12 rw12 x24 0 ⟨h19_12, h20_12, h21_12, h22_12, hbb_12, hbl_12, hb3_12⟩ hF12 hgrw12 (by first | assumption | omega) (by exact mu_dec (by assumption) (by omega) (by omega) (by omega)))
                  · refine J_istore (pc := 111) dX8_reachNow_111 (by decide) rfl ?_
                    show J X mX8_reachNow d kc ks 113 [some (.ref 19), some (.int (nI s)), some (.int (nI a)), some (.int (nI c)), some (.int x24), some (.int (nI q25)), some (.int (nI y6)), some (.int (nI c7))] [] w12 _
                    refine J_goto (pc := 113) (tgt := 15) dX8_reachNow_113 (by decide) ?_
                    exact J_sub (L' := [some (.ref 19), some (.int (nI s)), some (.int (nI a)), some (.int (nI c)), some (.int x24), some (.int (nI (q25 + 1) + Int32.ofInt (-1))), none, none]) ⟨rfl, ⟨rfl, ⟨rfl, ⟨rfl, ⟨rfl, ⟨(congrArg (fun z => some (Value.int z)) (nI_n1 q25)), trivial⟩⟩⟩⟩⟩⟩ (ihlp15_3 w12 rw12 x24 (q25 + 1) ⟨h19_12, h20_12, h21_12, h22_12, hbb_12, hbl_12, hb3_12⟩ hF12 hgrw12 (by first | assumption | omega) (by exact mu_dec (by assumption) (by omega) (by omega) (by omega)))
              · refine J_iload (pc := 42) dX8_reachNow_42 rfl ?_
                refine J_aload_n (pc := 44) dX8_reachNow_44 rfl rfl rfl ?_
                refine J_get (pc := 45) (k := 2) dX8_reachNow_45 kC9 (by decide) ff_X8_17 h19_12 rfl ?_
                refine J_aload_n (pc := 48) dX8_reachNow_48 rfl rfl rfl ?_
                refine J_iload_n (pc := 49) dX8_reachNow_49 rfl rfl ?_
                refine J_iload (pc := 50) dX8_reachNow_50 rfl ?_
                refine J_callV0 (pc := 52) (M := mX8_reachNow) (as := [.int (nI a), .int (nI c7)]) dX8_reachNow_52 fw_X8_at fl_X8_82 fm_X8_at fe_X8_at h19_12 (by decide) rfl rfl rfl (c_X8_at hs (d := d - 1) (Nat.le_trans (by decide) hdm) (w := w12) (n := n) (mv := mv) (rw := rw12) (nx := nx) (b := b) (bt := bt) (kn := kn) (en := en) (dn := dn) (rf := rf) (kk := kk) (th := th) ⟨h19_12, h20_12, h21_12, h22_12, hbb_12, hbl_12, hb3_12⟩ hn1 hn2 gm hgrw12 gx a c7 (by first | assumption | omega) (by first | assumption | omega) (kc := 0) (ks := 0)) hdp (st := [.ref 21, .int (nI y6)]) (Nat.le_of_ble_eq_true rfl) rfl (kr_P fun v26 hv26 => ?_) kx_I
                subst hv26
                have hq27 := gm (a * 7 + c7)
                refine J_ialdF (pc := 55) dX8_reachNow_55 h21_12 (by omega) (by decide) ?_
                have hq28 := hgrw12 (mv (a * 7 + c7))
                refine J_aload_n (pc := 56) dX8_reachNow_56 rfl rfl rfl ?_
                refine J_iload_n (pc := 57) dX8_reachNow_57 rfl rfl ?_
                refine J_iload (pc := 58) dX8_reachNow_58 rfl ?_
                refine J_callV0 (pc := 60) (M := mX8_reachNow) (as := [.int (nI a), .int (nI c7)]) dX8_reachNow_60 fw_X8_at fl_X8_82 fm_X8_at fe_X8_at h19_12 (by decide) rfl rfl rfl (c_X8_at hs (d := d - 1) (Nat.le_trans (by decide) hdm) (w := w12) (n := n) (mv := mv) (rw := rw12) (nx := nx) (b := b) (bt := bt) (kn := kn) (en := en) (dn := dn) (rf := rf) (kk := kk) (th := th) ⟨h19_12, h20_12, h21_12, h22_12, hbb_12, hbl_12, hb3_12⟩ hn1 hn2 gm hgrw12 gx a c7 (by first | assumption | omega) (by first | assumption | omega) (kc := 0) (ks := 0)) hdp (st := [.int (nI (rw12 (mv (a * 7 + c7)))), .int (nI y6)]) (Nat.le_of_ble_eq_true rfl) rfl (kr_P fun v29 hv29 => ?_) kx_I
                subst hv29
                have hq30 := gm (a * 7 + c7)
                refine J_icmp_neN (pc := 63) (tgt := 70) dX8_reachNow_63 (by decide) (by omega) (by omega) (fun ht31 => ?_) (fun hf32 => ?_)
                · refine J_iconst (pc := 70) (v := nI 0) dX8_reachNow_70 (by decide) ?_
                  refine J_iand1 (pc := 71) dX8_reachNow_71 (by omega) (by omega) ?_
                  refine J_istore (pc := 72) dX8_reachNow_72 (by decide) rfl ?_
                  show J X mX8_reachNow d kc ks 74 [some (.ref 19), some (.int (nI s)), some (.int (nI a)), some (.int (nI c)), some (.int z4), some (.int (nI (c5 - 1))), some (.int (nI (y6 * 0))), some (.int (nI c7))] [] w12 _
                  refine J_iincN (pc := 74) (b := 1) dX8_reachNow_74 rfl (by decide) (by decide) rfl ?_
                  show J X mX8_reachNow d kc ks 77 [some (.ref 19), some (.int (nI s)), some (.int (nI a)), some (.int (nI c)), some (.int z4), some (.int (nI (c5 - 1))), some (.int (nI (y6 * 0))), some (.int (nI (c7 + 1)))] [] w12 _
                  refine J_goto (pc := 77) (tgt := 36) dX8_reachNow_77 (by decide) ?_
                  exact J_sub (L' := [some (.ref 19), some (.int (nI s)), some (.int (nI a)), some (.int (nI c)), some (.int z4), some (.int (nI (c5 - 1))), some (.int (nI (y6 * 0))), some (.int (nI (c7 + 1)))]) ⟨rfl, ⟨rfl, ⟨rfl, ⟨rfl, ⟨rfl, ⟨rfl, ⟨rfl, ⟨rfl, trivial⟩⟩⟩⟩⟩⟩⟩⟩ (ihlp36_13 (y6 * 0) (c7 + 1) (by first | assumption | omega) (by first | assumption | omega) (by omega))
                · refine J_iconst (pc := 66) (v := nI 1) dX8_reachNow_66 (by decide) ?_
                  refine J_goto (pc := 67) (tgt := 71) dX8_reachNow_67 (by decide) ?_
                  have hm33 := Nat.mod_lt y6 (show 0 < 2 ^ 1 by decide)
                  refine J_iandN (pc := 71) 1 dX8_reachNow_71 (by omega) (by decide) ?_
                  refine J_istore (pc := 72) dX8_reachNow_72 (by decide) rfl ?_
                  show J X mX8_reachNow d kc ks 74 [some (.ref 19), some (.int (nI s)), some (.int (nI a)), some (.int (nI c)), some (.int z4), some (.int (nI (c5 - 1))), some (.int (nI (y6 % 2 ^ 1))), some (.int (nI c7))] [] w12 _
                  refine J_iincN (pc := 74) (b := 1) dX8_reachNow_74 rfl (by decide) (by decide) rfl ?_
                  show J X mX8_reachNow d kc ks 77 [some (.ref 19), some (.int (nI s)), some (.int (nI a)), some (.int (nI c)), some (.int z4), some (.int (nI (c5 - 1))), some (.int (nI (y6 % 2 ^ 1))), some (.int (nI (c7 + 1)))] [] w12 _
                  refine J_goto (pc := 77) (tgt := 36) dX8_reachNow_77 (by decide) ?_
                  exact J_sub (L' := [some (.ref 19), some (.int (nI s)), some (.int (nI a)), some (.int (nI c)), some (.int z4), some (.int (nI (c5 - 1))), some (.int (nI (y6 % 2 ^ 1))), some (.int (nI (c7 + 1)))]) ⟨rfl, ⟨rfl, ⟨rfl, ⟨rfl, ⟨rfl, ⟨rfl, ⟨rfl, ⟨rfl, trivial⟩⟩⟩⟩⟩⟩⟩⟩ (ihlp36_13 (y6 % 2 ^ 1) (c7 + 1) (by first | assumption | omega) (by first | assumption | omega) (by omega))
          exact J_sub (L' := [some (.ref 19), some (.int (nI s)), some (.int (nI a)), some (.int (nI c)), some (.int z4), some (.int (nI (c5 - 1))), some (.int (nI 1)), some (.int (nI 0))]) ⟨rfl, ⟨rfl, ⟨rfl, ⟨rfl, ⟨rfl, ⟨rfl, ⟨rfl, ⟨rfl, trivial⟩⟩⟩⟩⟩⟩⟩⟩ (lp36_13 _ 1 0 (by first | assumption | omega) (by first | assumption | omega) (Nat.lt_succ_self _))
    exact J_sub (L' := [some (.ref 19), some (.int (nI s)), some (.int (nI a)), some (.int (nI c)), some (.int (nI 0)), some (.int (nI 0 + Int32.ofInt (-1))), none, none]) ⟨rfl, ⟨rfl, ⟨rfl, ⟨rfl, ⟨rfl, ⟨(congrArg (fun z => some (Value.int z)) (by decide : (-1 : Int32) = nI 0 + Int32.ofInt (-1))), trivial⟩⟩⟩⟩⟩⟩ (lp15_3 _ w rw (nI 0) 0 ⟨h19, h20, h21, h22, hbb, hbl, hb3⟩ hF gr (by first | assumption | omega) (Nat.lt_succ_self _))
  · refine J_istore (pc := 13) dX8_reachNow_13 (by decide) rfl ?_
    show J X mX8_reachNow d kc ks 15 [some (.ref 19), some (.int (nI s)), some (.int (nI a)), some (.int (nI c)), some (.int (nI 0)), some (.int (nI q2)), none, none] [] w _
    have lp15_34 : ∀ (fuel : Nat) (w35 : List jC) (rw_15 : Nat → Nat) (z4 : Int32) (c5 : Nat), (RM n mv rw_15 nx b bt kn en dn rf kk th w35) → (FR b b w w35) → (∀ i, rw_15 i < 7) → (c5 ≤ fc n) → (mu (fc n) c5 < fuel) → J X mX8_reachNow d kc ks 15 [some (.ref 19), some (.int (nI s)), some (.int (nI a)), some (.int (nI c)), some (.int z4), some (.int (nI c5 + Int32.ofInt (-1))), none, none] [] w35 (pI (fun _ => True) (fun w' => ∃ (rw' : Nat → Nat), RM n mv rw' nx b bt kn en dn rf kk th w' ∧ FR b b w w' ∧ (∀ i, rw' i < 7))) := by
      intro fuellp15_34
      induction fuellp15_34 with
      | zero => intros; omega
      | succ fuellp15_34 ihlp15_34 =>
        intro w35 rw_15 z4 c5 hR36 hF37 gr38 hv15_0 hf39
        obtain ⟨h19_40, h20_40, h21_40, h22_40, hb_40, hbl_40, hb3_40⟩ := hR36
        refine J_iload (pc := 15) dX8_reachNow_15 rfl ?_
        refine J_if_ltM (pc := 17) (tgt := 116) dX8_reachNow_17 (by decide) (by omega) (fun ht41 => ?_) (fun hf42 => ?_)
        · refine J_iload (pc := 116) dX8_reachNow_116 rfl ?_
          exact J_iret (pc := 118) dX8_reachNow_118 rfl ⟨trivial, ⟨rw_15, ⟨h19_40, h20_40, h21_40, h22_40, hb_40, hbl_40, hb3_40⟩, hF37, gr38⟩⟩
        · rw [nI_m1 hf42]
          refine J_aload_n (pc := 20) dX8_reachNow_20 rfl rfl rfl ?_
          refine J_iload (pc := 21) dX8_reachNow_21 rfl ?_
          refine J_aload_n (pc := 23) dX8_reachNow_23 rfl rfl rfl ?_
          refine J_get (pc := 24) (k := 2) dX8_reachNow_24 kC9 (by decide) ff_X8_17 h19_40 rfl ?_
          refine J_callV0 (pc := 27) (M := mX8_reachNow) (as := [.int (nI (c5 - 1)), .ref 21]) dX8_reachNow_27 fw_X8_rowOf fl_X8_78 fm_X8_rowOf fe_X8_rowOf h19_40 (by decide) rfl rfl rfl (c_X8_rowOf hs (d := d - 1) (Nat.le_trans (by decide) hdm) (w := w35) (n := n) (mv := mv) (rw := rw_15) (nx := nx) (b := b) (bt := bt) (kn := kn) (en := en) (dn := dn) (rf := rf) (kk := kk) (th := th) ⟨h19_40, h20_40, h21_40, h22_40, hb_40, hbl_40, hb3_40⟩ hn1 hn2 gm gr38 gx (c5 - 1) (by first | assumption | omega) (kc := 0) (ks := 0)) hdp (st := []) (Nat.le_of_ble_eq_true rfl) rfl (kr_V fun w43 hw43 => ?_) kx_V
          obtain ⟨rw43, hR43, hFc43, hgrw43, hp43_0⟩ := hw43
          obtain ⟨h19_43, h20_43, h21_43, h22_43, hbb_43, hbl_43, hb3_43⟩ := hR43
          have hF43 := hF37.tr hFc43
          refine J_iconst (pc := 30) (v := nI 1) dX8_reachNow_30 (by decide) ?_
          refine J_istore (pc := 31) dX8_reachNow_31 (by decide) rfl ?_
          show J X mX8_reachNow d kc ks 33 [some (.ref 19), some (.int (nI s)), some (.int (nI a)), some (.int (nI c)), some (.int z4), some (.int (nI (c5 - 1))), some (.int (nI 1)), none] [] w43 _
          refine J_iconst (pc := 33) (v := nI 0) dX8_reachNow_33 (by decide) ?_
          refine J_istore (pc := 34) dX8_reachNow_34 (by decide) rfl ?_
          show J X mX8_reachNow d kc ks 36 [some (.ref 19), some (.int (nI s)), some (.int (nI a)), some (.int (nI c)), some (.int z4), some (.int (nI (c5 - 1))), some (.int (nI 1)), some (.int (nI 0))] [] w43 _
          have lp36_44 : ∀ (fuel : Nat) (y6 : Nat) (c7 : Nat), (y6 < 2) → (c7 ≤ c) → (c - c7 < fuel) → J X mX8_reachNow d kc ks 36 [some (.ref 19), some (.int (nI s)), some (.int (nI a)), some (.int (nI c)), some (.int z4), some (.int (nI (c5 - 1))), some (.int (nI y6)), some (.int (nI c7))] [] w43 (pI (fun _ => True) (fun w' => ∃ (rw' : Nat → Nat), RM n mv rw' nx b bt kn en dn rf kk th w' ∧ FR b b w w' ∧ (∀ i, rw' i < 7))) := by
            intro fuellp36_44
            induction fuellp36_44 with
            | zero => intros; omega
            | succ fuellp36_44 ihlp36_44 =>
              intro y6 c7 hv36_0 hv36_1 hf45
              refine J_iload (pc := 36) dX8_reachNow_36 rfl ?_
              refine J_iload_n (pc := 38) dX8_reachNow_38 rfl rfl ?_
              refine J_icmp_geN (pc := 39) (tgt := 80) dX8_reachNow_39 (by decide) (by omega) (by omega) (fun ht46 => ?_) (fun hf47 => ?_)
              · refine J_iload (pc := 80) dX8_reachNow_80 rfl ?_
                refine J_if_eqN (pc := 82) (tgt := 103) dX8_reachNow_82 (by decide) (by omega) (fun ht48 => ?_) (fun hf49 => ?_)
                · refine J_aload_n (pc := 103) dX8_reachNow_103 rfl rfl rfl ?_
                  refine J_iload (pc := 104) dX8_reachNow_104 rfl ?_
                  refine J_iconst (pc := 106) (v := nI 1) dX8_reachNow_106 (by decide) ?_
                  refine J_iaddN (pc := 107) dX8_reachNow_107 ?_
                  refine J_callV0 (pc := 108) (M := mX8_reachNow) (as := [.int (nI ((c5 - 1) + 1))]) dX8_reachNow_108 fw_X8_from fl_X8_137 fm_X8_from fe_X8_from h19_43 (by decide) rfl rfl rfl (c_X8_from hs (d := d - 1) (Nat.le_trans (by decide) hdm) (w := w43) (n := n) (mv := mv) (rw := rw43) (nx := nx) (b := b) (bt := bt) (kn := kn) (en := en) (dn := dn) (rf := rf) (kk := kk) (th := th) ⟨h19_43, h20_43, h21_43, h22_43, hbb_43, hbl_43, hb3_43⟩ hn1 hn2 gm hgrw43 gx ((c5 - 1) + 1) (by first | assumption | omega) (kc := 0) (ks := 0)) hdp (st := []) (Nat.le_of_ble_eq_true rfl) rfl (kr_P fun v50 hv50 => ?_) kx_I
                  rcases hv50 with ⟨rfl, hk50_0⟩ | ⟨q50, rfl, hk50_0, hk50_1, hk50_2, hk50_3⟩
                  · refine J_istore (pc := 111) dX8_reachNow_111 (by decide) rfl ?_
                    show J X mX8_reachNow d kc ks 113 [some (.ref 19), some (.int (nI s)), some (.int (nI a)), some (.int (nI c)), some (.int z4), some (.int (-1)), some (.int (nI y6)), some (.int (nI c7))] [] w43 _
                    refine J_goto (pc := 113) (tgt := 15) dX8_reachNow_113 (by decide) ?_
                    exact J_sub (L' := [some (.ref 19), some (.int (nI s)), some (.int (nI a)), some (.int (nI c)), some (.int z4), some (.int (nI 0 + Int32.ofInt (-1))), none, none]) ⟨rfl, ⟨rfl, ⟨rfl, ⟨rfl, ⟨rfl, ⟨(congrArg (fun z => some (Value.int z)) (by decide : (-1 : Int32) = nI 0 + Int32.ofInt (-1))), trivial⟩⟩⟩⟩⟩⟩ (ihlp15_34 w43 rw43 z4 0 ⟨h19_43, h20_43, h21_43, h22_43, hbb_43, hbl_43, hb3_43⟩ hF43 hgrw43 (by first | assumption | omega) (by exact mu_dec (by assumption) (by omega) (by omega) (by omega)))
                  · refine J_istore (pc := 111) dX8_reachNow_111 (by decide) rfl ?_
                    show J X mX8_reachNow d kc ks 113 [some (.ref 19), some (.int (nI s)), some (.int (nI a)), some (.int (nI c)), some (.int z4), some (.int (nI q50)), some (.int (nI y6)), some (.int (nI c7))] [] w43 _
                    refine J_goto (pc := 113) (tgt := 15) dX8_reachNow_113 (by decide) ?_
                    exact J_sub (L' := [some (.ref 19), some (.int (nI s)), some (.int (nI a)), some (.int (nI c)), some (.int z4), some (.int (nI (q50 + 1) + Int32.ofInt (-1))), none, none]) ⟨rfl, ⟨rfl, ⟨rfl, ⟨rfl, ⟨rfl, ⟨(congrArg (fun z => some (Value.int z)) (nI_n1 q50)), trivial⟩⟩⟩⟩⟩⟩ (ihlp15_34 w43 rw43 z4 (q50 + 1) ⟨h19_43, h20_43, h21_43, h22_43, hbb_43, hbl_43, hb3_43⟩ hF43 hgrw43 (by first | assumption | omega) (by exact mu_dec (by assumption) (by omega) (by omega) (by omega)))
                · refine J_iload (pc := 85) dX8_reachNow_85 rfl ?_
                  refine J_iconst (pc := 87) (v := nI 1) dX8_reachNow_87 (by decide) ?_
                  refine J_aload_n (pc := 88) dX8_reachNow_88 rfl rfl rfl ?_
                  refine J_get (pc := 89) (k := 2) dX8_reachNow_89 kC9 (by decide) ff_X8_17 h19_43 rfl ?_
                  refine J_aload_n (pc := 92) dX8_reachNow_92 rfl rfl rfl ?_
                  refine J_iload_n (pc := 93) dX8_reachNow_93 rfl rfl ?_
                  refine J_iload_n (pc := 94) dX8_reachNow_94 rfl rfl ?_
                  refine J_callV0 (pc := 95) (M := mX8_reachNow) (as := [.int (nI a), .int (nI c)]) dX8_reachNow_95 fw_X8_at fl_X8_82 fm_X8_at fe_X8_at h19_43 (by decide) rfl rfl rfl (c_X8_at hs (d := d - 1) (Nat.le_trans (by decide) hdm) (w := w43) (n := n) (mv := mv) (rw := rw43) (nx := nx) (b := b) (bt := bt) (kn := kn) (en := en) (dn := dn) (rf := rf) (kk := kk) (th := th) ⟨h19_43, h20_43, h21_43, h22_43, hbb_43, hbl_43, hb3_43⟩ hn1 hn2 gm hgrw43 gx a c (by first | assumption | omega) (by first | assumption | omega) (kc := 0) (ks := 0)) hdp (st := [.ref 21, .int (nI 1), .int z4]) (Nat.le_of_ble_eq_true rfl) rfl (kr_P fun v51 hv51 => ?_) kx_I
                  subst hv51
                  have hq52 := gm (a * 7 + c)
                  refine J_ialdF (pc := 98) dX8_reachNow_98 h21_43 (by omega) (by decide) ?_
                  have hq53 := hgrw43 (mv (a * 7 + c))
                  refine J_ishl (pc := 99) dX8_reachNow_99 (J_absI fun x54 => ?_)
                  refine J_ior (pc := 100) dX8_reachNow_100 (J_absI fun x55 => ?_)
                  refine J_istore (pc := 101) dX8_reachNow_101 (by decide) rfl ?_
                  show J X mX8_reachNow d kc ks 103 [some (.ref 19), some (.int (nI s)), some (.int (nI a)), some (.int (nI c)), some (.int x55), some (.int (nI (c5 - 1))), some (.int (nI y6)), some (.int (nI c7))] [] w43 _
                  refine J_aload_n (pc := 103) dX8_reachNow_103 rfl rfl rfl ?_
                  refine J_iload (pc := 104) dX8_reachNow_104 rfl ?_
                  refine J_iconst (pc := 106) (v := nI 1) dX8_reachNow_106 (by decide) ?_
                  refine J_iaddN (pc := 107) dX8_reachNow_107 ?_
                  refine J_callV0 (pc := 108) (M := mX8_reachNow) (as := [.int (nI ((c5 - 1) + 1))]) dX8_reachNow_108 fw_X8_from fl_X8_137 fm_X8_from fe_X8_from h19_43 (by decide) rfl rfl rfl (c_X8_from hs (d := d - 1) (Nat.le_trans (by decide) hdm) (w := w43) (n := n) (mv := mv) (rw := rw43) (nx := nx) (b := b) (bt := bt) (kn := kn) (en := en) (dn := dn) (rf := rf) (kk := kk) (th := th) ⟨h19_43, h20_43, h21_43, h22_43, hbb_43, hbl_43, hb3_43⟩ hn1 hn2 gm hgrw43 gx ((c5 - 1) + 1) (by first | assumption | omega) (kc := 0) (ks := 0)) hdp (st := []) (Nat.le_of_ble_eq_true rfl) rfl (kr_P fun v56 hv56 => ?_) kx_I
                  rcases hv56 with ⟨rfl, hk56_0⟩ | ⟨q56, rfl, hk56_0, hk56_1, hk56_2, hk56_3⟩
                  · refine J_istore (pc := 111) dX8_reachNow_111 (by decide) rfl ?_
                    show J X mX8_reachNow d kc ks 113 [some (.ref 19), some (.int (nI s)), some (.int (nI a)), some (.int (nI c)), some (.int x55), some (.int (-1)), some (.int (nI y6)), some (.int (nI c7))] [] w43 _
                    refine J_goto (pc := 113) (tgt := 15) dX8_reachNow_113 (by decide) ?_
                    exact J_sub (L' := [some (.ref 19), some (.int (nI s)), some (.int (nI a)), some (.int (nI c)), some (.int x55), some (.int (nI 0 + Int32.ofInt (-1))), none, none]) ⟨rfl, ⟨rfl, ⟨rfl, ⟨rfl, ⟨rfl, ⟨(congrArg (fun z => some (Value.int z)) (by decide : (-1 : Int32) = nI 0 + Int32.ofInt (-1))), trivial⟩⟩⟩⟩⟩⟩ (ihlp15_34 w43 rw43 x55 0 ⟨h19_43, h20_43, h21_43, h22_43, hbb_43, hbl_43, hb3_43⟩ hF43 hgrw43 (by first | assumption | omega) (by exact mu_dec (by assumption) (by omega) (by omega) (by omega)))
                  · refine J_istore (pc := 111) dX8_reachNow_111 (by decide) rfl ?_
                    show J X mX8_reachNow d kc ks 113 [some (.ref 19), some (.int (nI s)), some (.int (nI a)), some (.int (nI c)), some (.int x55), some (.int (nI q56)), some (.int (nI y6)), some (.int (nI c7))] [] w43 _
                    refine J_goto (pc := 113) (tgt := 15) dX8_reachNow_113 (by decide) ?_
                    exact J_sub (L' := [some (.ref 19), some (.int (nI s)), some (.int (nI a)), some (.int (nI c)), some (.int x55), some (.int (nI (q56 + 1) + Int32.ofInt (-1))), none, none]) ⟨rfl, ⟨rfl, ⟨rfl, ⟨rfl, ⟨rfl, ⟨(congrArg (fun z => some (Value.int z)) (nI_n1 q56)), trivial⟩⟩⟩⟩⟩⟩ (ihlp15_34 w43 rw43 x55 (q56 + 1) ⟨h19_43, h20_43, h21_43, h22_43, hbb_43, hbl_43, hb3_43⟩ hF43 hgrw43 (by first | assumption | omega) (by exact mu_dec (by assumption) (by omega) (by omega) (by omega)))
              · refine J_iload (pc := 42) dX8_reachNow_42 rfl ?_
                refine J_aload_n (pc := 44) dX8_reachNow_44 rfl rfl rfl ?_
                refine J_get (pc := 45) (k := 2) dX8_reachNow_45 kC9 (by decide) ff_X8_17 h19_43 rfl ?_
                refine J_aload_n (pc := 48) dX8_reachNow_48 rfl rfl rfl ?_
                refine J_iload_n (pc := 49) dX8_reachNow_49 rfl rfl ?_
                refine J_iload (pc := 50) dX8_reachNow_50 rfl ?_
                refine J_callV0 (pc := 52) (M := mX8_reachNow) (as := [.int (nI a), .int (nI c7)]) dX8_reachNow_52 fw_X8_at fl_X8_82 fm_X8_at fe_X8_at h19_43 (by decide) rfl rfl rfl (c_X8_at hs (d := d - 1) (Nat.le_trans (by decide) hdm) (w := w43) (n := n) (mv := mv) (rw := rw43) (nx := nx) (b := b) (bt := bt) (kn := kn) (en := en) (dn := dn) (rf := rf) (kk := kk) (th := th) ⟨h19_43, h20_43, h21_43, h22_43, hbb_43, hbl_43, hb3_43⟩ hn1 hn2 gm hgrw43 gx a c7 (by first | assumption | omega) (by first | assumption | omega) (kc := 0) (ks := 0)) hdp (st := [.ref 21, .int (nI y6)]) (Nat.le_of_ble_eq_true rfl) rfl (kr_P fun v57 hv57 => ?_) kx_I
                subst hv57
                have hq58 := gm (a * 7 + c7)
                refine J_ialdF (pc := 55) dX8_reachNow_55 h21_43 (by omega) (by decide) ?_
                have hq59 := hgrw43 (mv (a * 7 + c7))
                refine J_aload_n (pc := 56) dX8_reachNow_56 rfl rfl rfl ?_
                refine J_iload_n (pc := 57) dX8_reachNow_57 rfl rfl ?_
                refine J_iload (pc := 58) dX8_reachNow_58 rfl ?_
                refine J_callV0 (pc := 60) (M := mX8_reachNow) (as := [.int (nI a), .int (nI c7)]) dX8_reachNow_60 fw_X8_at fl_X8_82 fm_X8_at fe_X8_at h19_43 (by decide) rfl rfl rfl (c_X8_at hs (d := d - 1) (Nat.le_trans (by decide) hdm) (w := w43) (n := n) (mv := mv) (rw := rw43) (nx := nx) (b := b) (bt := bt) (kn := kn) (en := en) (dn := dn) (rf := rf) (kk := kk) (th := th) ⟨h19_43, h20_43, h21_43, h22_43, hbb_43, hbl_43, hb3_43⟩ hn1 hn2 gm hgrw43 gx a c7 (by first | assumption | omega) (by first | assumption | omega) (kc := 0) (ks := 0)) hdp (st := [.int (nI (rw43 (mv (a * 7 + c7)))), .int (nI y6)]) (Nat.le_of_ble_eq_true rfl) rfl (kr_P fun v60 hv60 => ?_) kx_I
                subst hv60
                have hq61 := gm (a * 7 + c7)
                refine J_icmp_neN (pc := 63) (tgt := 70) dX8_reachNow_63 (by decide) (by omega) (by omega) (fun ht62 => ?_) (fun hf63 => ?_)
                · refine J_iconst (pc := 70) (v := nI 0) dX8_reachNow_70 (by decide) ?_
                  refine J_iand1 (pc := 71) dX8_reachNow_71 (by omega) (by omega) ?_
                  refine J_istore (pc := 72) dX8_reachNow_72 (by decide) rfl ?_
                  show J X mX8_reachNow d kc ks 74 [some (.ref 19), some (.int (nI s)), some (.int (nI a)), some (.int (nI c)), some (.int z4), some (.int (nI (c5 - 1))), some (.int (nI (y6 * 0))), some (.int (nI c7))] [] w43 _
                  refine J_iincN (pc := 74) (b := 1) dX8_reachNow_74 rfl (by decide) (by decide) rfl ?_
                  show J X mX8_reachNow d kc ks 77 [some (.ref 19), some (.int (nI s)), some (.int (nI a)), some (.int (nI c)), some (.int z4), some (.int (nI (c5 - 1))), some (.int (nI (y6 * 0))), some (.int (nI (c7 + 1)))] [] w43 _
                  refine J_goto (pc := 77) (tgt := 36) dX8_reachNow_77 (by decide) ?_
                  exact J_sub (L' := [some (.ref 19), some (.int (nI s)), some (.int (nI a)), some (.int (nI c)), some (.int z4), some (.int (nI (c5 - 1))), some (.int (nI (y6 * 0))), some (.int (nI (c7 + 1)))]) ⟨rfl, ⟨rfl, ⟨rfl, ⟨rfl, ⟨rfl, ⟨rfl, ⟨rfl, ⟨rfl, trivial⟩⟩⟩⟩⟩⟩⟩⟩ (ihlp36_44 (y6 * 0) (c7 + 1) (by first | assumption | omega) (by first | assumption | omega) (by omega))
                · refine J_iconst (pc := 66) (v := nI 1) dX8_reachNow_66 (by decide) ?_
                  refine J_goto (pc := 67) (tgt := 71) dX8_reachNow_67 (by decide) ?_
                  have hm64 := Nat.mod_lt y6 (show 0 < 2 ^ 1 by decide)
                  refine J_iandN (pc := 71) 1 dX8_reachNow_71 (by omega) (by decide) ?_
                  refine J_istore (pc := 72) dX8_reachNow_72 (by decide) rfl ?_
                  show J X mX8_reachNow d kc ks 74 [some (.ref 19), some (.int (nI s)), some (.int (nI a)), some (.int (nI c)), some (.int z4), some (.int (nI (c5 - 1))), some (.int (nI (y6 % 2 ^ 1))), some (.int (nI c7))] [] w43 _
                  refine J_iincN (pc := 74) (b := 1) dX8_reachNow_74 rfl (by decide) (by decide) rfl ?_
                  show J X mX8_reachNow d kc ks 77 [some (.ref 19), some (.int (nI s)), some (.int (nI a)), some (.int (nI c)), some (.int z4), some (.int (nI (c5 - 1))), some (.int (nI (y6 % 2 ^ 1))), some (.int (nI (c7 + 1)))] [] w43 _
                  refine J_goto (pc := 77) (tgt := 36) dX8_reachNow_77 (by decide) ?_
                  exact J_sub (L' := [some (.ref 19), some (.int (nI s)), some (.int (nI a)), some (.int (nI c)), some (.int z4), some (.int (nI (c5 - 1))), some (.int (nI (y6 % 2 ^ 1))), some (.int (nI (c7 + 1)))]) ⟨rfl, ⟨rfl, ⟨rfl, ⟨rfl, ⟨rfl, ⟨rfl, ⟨rfl, ⟨rfl, trivial⟩⟩⟩⟩⟩⟩⟩⟩ (ihlp36_44 (y6 % 2 ^ 1) (c7 + 1) (by first | assumption | omega) (by first | assumption | omega) (by omega))
          exact J_sub (L' := [some (.ref 19), some (.int (nI s)), some (.int (nI a)), some (.int (nI c)), some (.int z4), some (.int (nI (c5 - 1))), some (.int (nI 1)), some (.int (nI 0))]) ⟨rfl, ⟨rfl, ⟨rfl, ⟨rfl, ⟨rfl, ⟨rfl, ⟨rfl, ⟨rfl, trivial⟩⟩⟩⟩⟩⟩⟩⟩ (lp36_44 _ 1 0 (by first | assumption | omega) (by first | assumption | omega) (Nat.lt_succ_self _))
    exact J_sub (L' := [some (.ref 19), some (.int (nI s)), some (.int (nI a)), some (.int (nI c)), some (.int (nI 0)), some (.int (nI (q2 + 1) + Int32.ofInt (-1))), none, none]) ⟨rfl, ⟨rfl, ⟨rfl, ⟨rfl, ⟨rfl, ⟨(congrArg (fun z => some (Value.int z)) (nI_n1 q2)), trivial⟩⟩⟩⟩⟩⟩ (lp15_34 _ w rw (nI 0) (q2 + 1) ⟨h19, h20, h21, h22, hbb, hbl, hb3⟩ hF gr (by first | assumption | omega) (Nat.lt_succ_self _))
set_option maxRecDepth 100000 in
set_option maxHeartbeats 4000000 in
theorem c_X8_isInNow_atk {X : jX} (hs : X.1.stackTraces = false) {d : Nat} (hd : 4 ≤ d) {n : Nat} {mv rw nx : Nat → Nat} {b : Nat} {bt : List Int32} {kn en dn rf kk th : Int32} {w : List jC} (hR : RM n mv rw nx b bt kn en dn rf kk th w) (hn1 : 2 ≤ n) (hn2 : n ≤ 7) (gm : ∀ i, mv i < 7) (gr : ∀ i, rw i < 7) (gx : ∀ i, nx i < 7) (s : Nat) (a : Nat) (hy0 : s < 64) (hy1 : kn = nI s) (hy2 : BX n mv s bt) (hy3 : PM n mv) (hy4 : a < 6) {kc ks : Nat} : jMet X mX8_isInNow d kc ks [.ref 19, .int (nI s), .int (nI a)] w (pI (fun v => ∃ k : Nat, v = nI k ∧ k < 2) (fun w' => RM n mv rw nx b bt kn en dn rf kk th w' ∧ FR b b w w')) := by
  refine jMet_of hs (by decide +kernel) (Nat.le_of_ble_eq_true rfl) (L := [some (.ref 19), some (.int (nI s)), some (.int (nI a))]) rfl ?_
  have hdm : 3 ≤ d - 1 := by omega
  have hdp : d - 1 + 1 ≤ d := by omega
  have hfc := fc_7 hn2
  have hfp := fc_pos n
  obtain ⟨h19, h20, h21, h22, hbb, hbl, hb3⟩ := hR
  have hF : FR b b w w := FR.rf
  refine J_aload_n (pc := 0) dX8_isInNow_0 rfl rfl rfl ?_
  refine J_iload_n (pc := 1) dX8_isInNow_1 rfl rfl ?_
  refine J_callV0 (pc := 2) (M := mX8_isInNow) (as := [.int (nI s)]) dX8_isInNow_2 fw_X8_group fl_X8_99 fm_X8_group fe_X8_group h19 (by decide) rfl rfl rfl (c_X8_group_atk hs (d := d - 1) (Nat.le_trans (by decide) hdm) (w := w) (n := n) (mv := mv) (rw := rw) (nx := nx) (b := b) (bt := bt) (kn := kn) (en := en) (dn := dn) (rf := rf) (kk := kk) (th := th) ⟨h19, h20, h21, h22, hbb, hbl, hb3⟩ hn1 hn2 gm gr gx s (by first | assumption | omega) (by first | assumption | omega) (kc := 0) (ks := 0)) hdp (st := []) (Nat.le_of_ble_eq_true rfl) rfl (kr_V fun w1 hw1 => ?_) kx_V
  obtain rfl := hw1.symm
  refine J_aload_n (pc := 5) dX8_isInNow_5 rfl rfl rfl ?_
  refine J_aload_n (pc := 6) dX8_isInNow_6 rfl rfl rfl ?_
  refine J_aload_n (pc := 7) dX8_isInNow_7 rfl rfl rfl ?_
  refine J_get (pc := 8) (k := 1) dX8_isInNow_8 kC9 (by decide) ff_X8_13 h19 rfl ?_
  refine J_iload_n (pc := 11) dX8_isInNow_11 rfl rfl ?_
  refine J_bipush (pc := 12) (v := nI 7) dX8_isInNow_12 (by decide) ?_
  refine J_imulN (pc := 14) dX8_isInNow_14 ?_
  refine J_callV0 (pc := 15) (M := mX8_isInNow) (as := [.ref 20, .int (nI (a * 7))]) dX8_isInNow_15 fw_X8_numberOf fl_X8_45 fm_X8_numberOf fe_X8_numberOf h19 (by decide) rfl rfl rfl (c_X8_numberOf_at20 hs (d := d - 1) (Nat.le_trans (by decide) hdm) (w := w) (n := n) (mv := mv) (rw := rw) (nx := nx) (b := b) (bt := bt) (kn := kn) (en := en) (dn := dn) (rf := rf) (kk := kk) (th := th) ⟨h19, h20, h21, h22, hbb, hbl, hb3⟩ hn1 hn2 gm gr gx (a * 7) (by first | assumption | omega) (kc := 0) (ks := 0)) hdp (st := [.ref 19]) (Nat.le_of_ble_eq_true rfl) rfl (kr_P fun v2 hv2 => ?_) kx_I
  subst hv2
  have hq3 := nuF_b mv (a * 7) n
  refine J_callV0 (pc := 18) (M := mX8_isInNow) (as := [.int (nI (nuF mv (a * 7) n n))]) dX8_isInNow_18 fw_X8_isBit fl_X8_88 fm_X8_isBit fe_X8_isBit h19 (by decide) rfl rfl rfl (c_X8_isBit hs (d := d - 1) (Nat.le_trans (by decide) hdm) (w := w) (n := n) (mv := mv) (rw := rw) (nx := nx) (b := b) (bt := bt) (kn := kn) (en := en) (dn := dn) (rf := rf) (kk := kk) (th := th) ⟨h19, h20, h21, h22, hbb, hbl, hb3⟩ hn1 hn2 gm gr gx (nuF mv (a * 7) n n) (by first | assumption | omega) (kc := 0) (ks := 0)) hdp (st := []) (Nat.le_of_ble_eq_true rfl) rfl (kr_P fun v4 hv4 => ?_) kx_I
  rcases hv4 with ⟨rfl, hk4_0⟩ | ⟨rfl, hk4_0⟩
  · exact J_zret (pc := 21) dX8_isInNow_21 rfl (nar_b (by first | decide | omega)) ⟨⟨0, rfl, by omega⟩, ⟨⟨h19, h20, h21, h22, hbb, hbl, hb3⟩, hF⟩⟩
  · exact J_zret (pc := 21) dX8_isInNow_21 rfl (nar_b (by first | decide | omega)) ⟨⟨1, rfl, by omega⟩, ⟨⟨h19, h20, h21, h22, hbb, hbl, hb3⟩, hF⟩⟩
