section
/-! contracts of the reference: rspec4 -/
set_option maxRecDepth 100000 in
set_option maxHeartbeats 40000000 in
theorem c_X8_comesNow {X : jX} (hs : X.1.stackTraces = false) {d : Nat} (hd : 1 ≤ d) {n : Nat} {mv rw nx : Nat → Nat} {b : Nat} {bt : List Int32} {kn en dn rf kk th : Int32} {w : List jC} (hR : RM n mv rw nx b bt kn en dn rf kk th w) (hn1 : 2 ≤ n) (hn2 : n ≤ 7) (gm : ∀ i, mv i < 7) (gr : ∀ i, rw i < 7) (gx : ∀ i, nx i < 7) (s : Nat) (a : Nat) (hy0 : s < 64) (hy1 : a < 7) {kc ks : Nat} : jMet X mX8_comesNow d kc ks [.ref 19, .int (nI s), .int (nI a)] w (pI (fun _ => True) (fun w' => w' = w)) := by
  refine jMet_of hs (by decide +kernel) (Nat.le_of_ble_eq_true rfl) (L := [some (.ref 19), some (.int (nI s)), some (.int (nI a)), none, none, none, none]) rfl ?_
  have hdm : 0 ≤ d - 1 := by omega
  have hdp : d - 1 + 1 ≤ d := by omega
  have hfc := fc_7 hn2
  have hfp := fc_pos n
  obtain ⟨h19, h20, h21, h22, hbb, hbl, hb3⟩ := hR
  have hF : FR b b w w := FR.rf
  refine J_iconst (pc := 0) (v := nI 1) dX8_comesNow_0 (by decide) ?_
  refine J_iload_n (pc := 1) dX8_comesNow_1 rfl rfl ?_
  refine J_ishl (pc := 2) dX8_comesNow_2 (J_absI fun x1 => ?_)
  refine J_istore_n (pc := 3) dX8_comesNow_3 rfl (by decide) rfl ?_
  show J X mX8_comesNow d kc ks 4 [some (.ref 19), some (.int (nI s)), some (.int (nI a)), some (.int x1), none, none, none] [] w _
  refine J_iconst (pc := 4) (v := nI 0) dX8_comesNow_4 (by decide) ?_
  refine J_istore (pc := 5) dX8_comesNow_5 (by decide) rfl ?_
  show J X mX8_comesNow d kc ks 7 [some (.ref 19), some (.int (nI s)), some (.int (nI a)), some (.int x1), some (.int (nI 0)), none, none] [] w _
  have lp7_2 : ∀ (fuel : Nat) (z3 : Int32) (c4 : Nat), (c4 ≤ n) → (n - c4 < fuel) → J X mX8_comesNow d kc ks 7 [some (.ref 19), some (.int (nI s)), some (.int (nI a)), some (.int z3), some (.int (nI c4)), none, none] [] w (pI (fun _ => True) (fun w' => w' = w)) := by
    intro fuellp7_2
    induction fuellp7_2 with
    | zero => intros; omega
    | succ fuellp7_2 ihlp7_2 =>
      intro z3 c4 hv7_0 hf3
      refine J_iload (pc := 7) dX8_comesNow_7 rfl ?_
      refine J_aload_n (pc := 9) dX8_comesNow_9 rfl rfl rfl ?_
      refine J_get (pc := 10) (k := 0) dX8_comesNow_10 kC9 (by decide) ff_X8_7 h19 rfl ?_
      refine J_icmp_geN (pc := 13) (tgt := 91) dX8_comesNow_13 (by decide) (by omega) (by omega) (fun ht4 => ?_) (fun hf5 => ?_)
      · refine J_iload_n (pc := 91) dX8_comesNow_91 rfl rfl ?_
        exact J_iret (pc := 92) dX8_comesNow_92 rfl ⟨trivial, rfl⟩
      · refine J_iconst (pc := 16) (v := nI 0) dX8_comesNow_16 (by decide) ?_
        refine J_istore (pc := 17) dX8_comesNow_17 (by decide) rfl ?_
        show J X mX8_comesNow d kc ks 19 [some (.ref 19), some (.int (nI s)), some (.int (nI a)), some (.int z3), some (.int (nI c4)), some (.int (nI 0)), none] [] w _
        have lp19_6 : ∀ (fuel : Nat) (z3 : Int32) (c5 : Nat), (c5 ≤ 6) → (6 - c5 < fuel) → J X mX8_comesNow d kc ks 19 [some (.ref 19), some (.int (nI s)), some (.int (nI a)), some (.int z3), some (.int (nI c4)), some (.int (nI c5)), none] [] w (pI (fun _ => True) (fun w' => w' = w)) := by
          intro fuellp19_6
          induction fuellp19_6 with
          | zero => intros; omega
          | succ fuellp19_6 ihlp19_6 =>
            intro z3 c5 hv19_0 hf7
            refine J_iload (pc := 19) dX8_comesNow_19 rfl ?_
            refine J_bipush (pc := 21) (v := nI 6) dX8_comesNow_21 (by decide) ?_
            refine J_icmp_geN (pc := 23) (tgt := 85) dX8_comesNow_23 (by decide) (by omega) (by omega) (fun ht8 => ?_) (fun hf9 => ?_)
            · refine J_iincN (pc := 85) (b := 1) dX8_comesNow_85 rfl (by decide) (by decide) rfl ?_
              show J X mX8_comesNow d kc ks 88 [some (.ref 19), some (.int (nI s)), some (.int (nI a)), some (.int z3), some (.int (nI (c4 + 1))), some (.int (nI c5)), none] [] w _
              refine J_goto (pc := 88) (tgt := 7) dX8_comesNow_88 (by decide) ?_
              exact J_sub (L' := [some (.ref 19), some (.int (nI s)), some (.int (nI a)), some (.int z3), some (.int (nI (c4 + 1))), none, none]) ⟨rfl, ⟨rfl, ⟨rfl, ⟨rfl, ⟨rfl, trivial⟩⟩⟩⟩⟩ (ihlp7_2 z3 (c4 + 1) (by first | assumption | omega) (by omega))
            · refine J_iload_n (pc := 26) dX8_comesNow_26 rfl rfl ?_
              refine J_iload (pc := 27) dX8_comesNow_27 rfl ?_
              refine J_ishrN (pc := 29) dX8_comesNow_29 (by omega) (by omega) ?_
              refine J_iconst (pc := 30) (v := nI 1) dX8_comesNow_30 (by decide) ?_
              have hm10 := Nat.mod_lt (s / 2 ^ c5) (show 0 < 2 ^ 1 by decide)
              have hm11 := Nat.div_le_self s (2 ^ c5)
              refine J_iandN (pc := 31) 1 dX8_comesNow_31 (by omega) (by decide) ?_
              refine J_if_neN (pc := 32) (tgt := 38) dX8_comesNow_32 (by decide) (by omega) (fun ht12 => ?_) (fun hf13 => ?_)
              · refine J_iconst (pc := 38) (v := nI 0) dX8_comesNow_38 (by decide) ?_
                refine J_istore (pc := 39) dX8_comesNow_39 (by decide) rfl ?_
                show J X mX8_comesNow d kc ks 41 [some (.ref 19), some (.int (nI s)), some (.int (nI a)), some (.int z3), some (.int (nI c4)), some (.int (nI c5)), some (.int (nI 0))] [] w _
                have lp41_14 : ∀ (fuel : Nat) (z3 : Int32) (c6 : Nat), (c6 ≤ n) → (n - c6 < fuel) → J X mX8_comesNow d kc ks 41 [some (.ref 19), some (.int (nI s)), some (.int (nI a)), some (.int z3), some (.int (nI c4)), some (.int (nI c5)), some (.int (nI c6))] [] w (pI (fun _ => True) (fun w' => w' = w)) := by
                  intro fuellp41_14
                  induction fuellp41_14 with
                  | zero => intros; omega
                  | succ fuellp41_14 ihlp41_14 =>
                    intro z3 c6 hv41_0 hf15
                    refine J_iload (pc := 41) dX8_comesNow_41 rfl ?_
                    refine J_aload_n (pc := 43) dX8_comesNow_43 rfl rfl rfl ?_
                    refine J_get (pc := 44) (k := 0) dX8_comesNow_44 kC9 (by decide) ff_X8_7 h19 rfl ?_
                    refine J_icmp_geN (pc := 47) (tgt := 79) dX8_comesNow_47 (by decide) (by omega) (by omega) (fun ht16 => ?_) (fun hf17 => ?_)
                    · refine J_iincN (pc := 79) (b := 1) dX8_comesNow_79 rfl (by decide) (by decide) rfl ?_
                      show J X mX8_comesNow d kc ks 82 [some (.ref 19), some (.int (nI s)), some (.int (nI a)), some (.int z3), some (.int (nI c4)), some (.int (nI (c5 + 1))), some (.int (nI c6))] [] w _
                      refine J_goto (pc := 82) (tgt := 19) dX8_comesNow_82 (by decide) ?_
                      exact J_sub (L' := [some (.ref 19), some (.int (nI s)), some (.int (nI a)), some (.int z3), some (.int (nI c4)), some (.int (nI (c5 + 1))), none]) ⟨rfl, ⟨rfl, ⟨rfl, ⟨rfl, ⟨rfl, ⟨rfl, trivial⟩⟩⟩⟩⟩⟩ (ihlp19_6 z3 (c5 + 1) (by first | assumption | omega) (by omega))
                    · refine J_iload_n (pc := 50) dX8_comesNow_50 rfl rfl ?_
                      refine J_iload (pc := 51) dX8_comesNow_51 rfl ?_
                      refine J_ishr (pc := 53) dX8_comesNow_53 (J_absI fun x18 => ?_)
                      refine J_iconst (pc := 54) (v := nI 1) dX8_comesNow_54 (by decide) ?_
                      refine J_iand (pc := 55) dX8_comesNow_55 (J_andE 1 1 (by decide) fun k19 hk19 => ?_)
                      refine J_iconst (pc := 56) (v := nI 1) dX8_comesNow_56 (by decide) ?_
                      refine J_icmp_neN (pc := 57) (tgt := 73) dX8_comesNow_57 (by decide) (by omega) (by omega) (fun ht20 => ?_) (fun hf21 => ?_)
                      · refine J_iincN (pc := 73) (b := 1) dX8_comesNow_73 rfl (by decide) (by decide) rfl ?_
                        show J X mX8_comesNow d kc ks 76 [some (.ref 19), some (.int (nI s)), some (.int (nI a)), some (.int z3), some (.int (nI c4)), some (.int (nI c5)), some (.int (nI (c6 + 1)))] [] w _
                        refine J_goto (pc := 76) (tgt := 41) dX8_comesNow_76 (by decide) ?_
                        exact J_sub (L' := [some (.ref 19), some (.int (nI s)), some (.int (nI a)), some (.int z3), some (.int (nI c4)), some (.int (nI c5)), some (.int (nI (c6 + 1)))]) ⟨rfl, ⟨rfl, ⟨rfl, ⟨rfl, ⟨rfl, ⟨rfl, ⟨rfl, trivial⟩⟩⟩⟩⟩⟩⟩ (ihlp41_14 z3 (c6 + 1) (by first | assumption | omega) (by omega))
                      · refine J_iload_n (pc := 60) dX8_comesNow_60 rfl rfl ?_
                        refine J_iconst (pc := 61) (v := nI 1) dX8_comesNow_61 (by decide) ?_
                        refine J_aload_n (pc := 62) dX8_comesNow_62 rfl rfl rfl ?_
                        refine J_iload (pc := 63) dX8_comesNow_63 rfl ?_
                        refine J_iload (pc := 65) dX8_comesNow_65 rfl ?_
                        refine J_callV0 (pc := 67) (M := mX8_comesNow) (as := [.int (nI c5), .int (nI c6)]) dX8_comesNow_67 fw_X8_at fl_X8_82 fm_X8_at fe_X8_at h19 (by decide) rfl rfl rfl (c_X8_at hs (d := d - 1) (Nat.le_trans (by decide) hdm) (w := w) (n := n) (mv := mv) (rw := rw) (nx := nx) (b := b) (bt := bt) (kn := kn) (en := en) (dn := dn) (rf := rf) (kk := kk) (th := th) ⟨h19, h20, h21, h22, hbb, hbl, hb3⟩ hn1 hn2 gm gr gx c5 c6 (by first | assumption | omega) (by first | assumption | omega) (kc := 0) (ks := 0)) hdp (st := [.int (nI 1), .int z3]) (Nat.le_of_ble_eq_true rfl) rfl (kr_P fun v22 hv22 => ?_) kx_I
                        subst hv22
                        have hq23 := gm (c5 * 7 + c6)
                        refine J_ishl (pc := 70) dX8_comesNow_70 (J_absI fun x24 => ?_)
                        refine J_ior (pc := 71) dX8_comesNow_71 (J_absI fun x25 => ?_)
                        refine J_istore_n (pc := 72) dX8_comesNow_72 rfl (by decide) rfl ?_
                        show J X mX8_comesNow d kc ks 73 [some (.ref 19), some (.int (nI s)), some (.int (nI a)), some (.int x25), some (.int (nI c4)), some (.int (nI c5)), some (.int (nI c6))] [] w _
                        refine J_iincN (pc := 73) (b := 1) dX8_comesNow_73 rfl (by decide) (by decide) rfl ?_
                        show J X mX8_comesNow d kc ks 76 [some (.ref 19), some (.int (nI s)), some (.int (nI a)), some (.int x25), some (.int (nI c4)), some (.int (nI c5)), some (.int (nI (c6 + 1)))] [] w _
                        refine J_goto (pc := 76) (tgt := 41) dX8_comesNow_76 (by decide) ?_
                        exact J_sub (L' := [some (.ref 19), some (.int (nI s)), some (.int (nI a)), some (.int x25), some (.int (nI c4)), some (.int (nI c5)), some (.int (nI (c6 + 1)))]) ⟨rfl, ⟨rfl, ⟨rfl, ⟨rfl, ⟨rfl, ⟨rfl, ⟨rfl, trivial⟩⟩⟩⟩⟩⟩⟩ (ihlp41_14 x25 (c6 + 1) (by first | assumption | omega) (by omega))
                exact J_sub (L' := [some (.ref 19), some (.int (nI s)), some (.int (nI a)), some (.int z3), some (.int (nI c4)), some (.int (nI c5)), some (.int (nI 0))]) ⟨rfl, ⟨rfl, ⟨rfl, ⟨rfl, ⟨rfl, ⟨rfl, ⟨rfl, trivial⟩⟩⟩⟩⟩⟩⟩ (lp41_14 _ z3 0 (by first | assumption | omega) (Nat.lt_succ_self _))
              · refine J_goto (pc := 35) (tgt := 79) dX8_comesNow_35 (by decide) ?_
                refine J_iincN (pc := 79) (b := 1) dX8_comesNow_79 rfl (by decide) (by decide) rfl ?_
                show J X mX8_comesNow d kc ks 82 [some (.ref 19), some (.int (nI s)), some (.int (nI a)), some (.int z3), some (.int (nI c4)), some (.int (nI (c5 + 1))), none] [] w _
                refine J_goto (pc := 82) (tgt := 19) dX8_comesNow_82 (by decide) ?_
                exact J_sub (L' := [some (.ref 19), some (.int (nI s)), some (.int (nI a)), some (.int z3), some (.int (nI c4)), some (.int (nI (c5 + 1))), none]) ⟨rfl, ⟨rfl, ⟨rfl, ⟨rfl, ⟨rfl, ⟨rfl, trivial⟩⟩⟩⟩⟩⟩ (ihlp19_6 z3 (c5 + 1) (by first | assumption | omega) (by omega))
        exact J_sub (L' := [some (.ref 19), some (.int (nI s)), some (.int (nI a)), some (.int z3), some (.int (nI c4)), some (.int (nI 0)), none]) ⟨rfl, ⟨rfl, ⟨rfl, ⟨rfl, ⟨rfl, ⟨rfl, trivial⟩⟩⟩⟩⟩⟩ (lp19_6 _ z3 0 (by first | assumption | omega) (Nat.lt_succ_self _))
  exact J_sub (L' := [some (.ref 19), some (.int (nI s)), some (.int (nI a)), some (.int x1), some (.int (nI 0)), none, none]) ⟨rfl, ⟨rfl, ⟨rfl, ⟨rfl, ⟨rfl, trivial⟩⟩⟩⟩⟩ (lp7_2 _ x1 0 (by first | assumption | omega) (Nat.lt_succ_self _))
set_option maxRecDepth 100000 in
set_option maxHeartbeats 40000000 in
theorem c_X8_comes {X : jX} (hs : X.1.stackTraces = false) {d : Nat} (hd : 2 ≤ d) {n : Nat} {mv rw nx : Nat → Nat} {b : Nat} {bt : List Int32} {kn en dn rf kk th : Int32} {w : List jC} (hR : RM n mv rw nx b bt kn en dn rf kk th w) (hn1 : 2 ≤ n) (hn2 : n ≤ 7) (gm : ∀ i, mv i < 7) (gr : ∀ i, rw i < 7) (gx : ∀ i, nx i < 7) (s : Int32) (a : Int32) {kc ks : Nat} : jMet X mX8_comes d kc ks [.ref 19, .int s, .int a] w (pI (fun _ => True) (fun w' => ∃ (th' : Int32), RM n mv rw nx b bt kn en dn rf kk th' w' ∧ FR b b w w')) := by
  refine jMet_of hs (by decide +kernel) (Nat.le_of_ble_eq_true rfl) (L := [some (.ref 19), some (.int s), some (.int a)]) rfl ?_
  have hdm : 1 ≤ d - 1 := by omega
  have hdp : d - 1 + 1 ≤ d := by omega
  have hfc := fc_7 hn2
  have hfp := fc_pos n
  obtain ⟨h19, h20, h21, h22, hbb, hbl, hb3⟩ := hR
  have hF : FR b b w w := FR.rf
  refine J_aload_n (pc := 0) dX8_comes_0 rfl rfl rfl ?_
  refine J_aload_n (pc := 1) dX8_comes_1 rfl rfl rfl ?_
  refine J_iload_n (pc := 2) dX8_comes_2 rfl rfl ?_
  refine J_callV0 (pc := 3) (M := mX8_comes) (as := [.int a]) dX8_comes_3 fw_X8_isPoint fl_X8_118 fm_X8_isPoint fe_X8_isPoint h19 (by decide) rfl rfl rfl (c_X8_isPoint hs (d := d - 1) (Nat.le_trans (by decide) hdm) (w := w) (n := n) (mv := mv) (rw := rw) (nx := nx) (b := b) (bt := bt) (kn := kn) (en := en) (dn := dn) (rf := rf) (kk := kk) (th := th) ⟨h19, h20, h21, h22, hbb, hbl, hb3⟩ hn1 hn2 gm gr gx a (kc := 0) (ks := 0)) hdp (st := [.ref 19]) (Nat.le_of_ble_eq_true rfl) rfl (kr_P fun v1 hv1 => ?_) kx_I
  rcases hv1 with ⟨rfl, hk1_0⟩ | ⟨q1, rfl, hk1_0, rfl⟩
  · refine J_if_neN (pc := 6) (tgt := 13) dX8_comes_6 (by decide) (by decide) (fun h => absurd h (by decide)) (fun _ => ?_)
    refine J_iconst (pc := 9) (v := nI 1) dX8_comes_9 (by decide) ?_
    refine J_goto (pc := 10) (tgt := 14) dX8_comes_10 (by decide) ?_
    refine J_iload_n (pc := 14) dX8_comes_14 rfl rfl ?_
    refine J_callS0 (pc := 15) (M := mX8_comes) (as := [.int s]) dX8_comes_15 fw_X8_isSet fl_X8_134 fs_X8_isSet rfl (c_X8_isSet hs (d := d - 1) (Nat.le_trans (by decide) hdm) (w := w) s (kc := 0) (ks := 0)) hdp (st := [.int (nI 1), .ref 19]) (Nat.le_of_ble_eq_true rfl) rfl (kr_P fun v2 hv2 => ?_) kx_I
    rcases hv2 with ⟨rfl, hk2_0⟩ | ⟨q2, rfl, hk2_0, rfl⟩
    · refine J_if_neN (pc := 18) (tgt := 25) dX8_comes_18 (by decide) (by decide) (fun h => absurd h (by decide)) (fun _ => ?_)
      refine J_iconst (pc := 21) (v := nI 1) dX8_comes_21 (by decide) ?_
      refine J_goto (pc := 22) (tgt := 26) dX8_comes_22 (by decide) ?_
      refine J_callV0 (pc := 26) (M := mX8_comes) (as := [.int (nI 1), .int (nI 1)]) dX8_comes_26 fw_X8_isThrown fl_X8_35 fm_X8_isThrown fe_X8_isThrown h19 (by decide) rfl rfl rfl (c_X8_isThrown hs (d := d - 1) (Nat.le_trans (by decide) hdm) (w := w) (n := n) (mv := mv) (rw := rw) (nx := nx) (b := b) (bt := bt) (kn := kn) (en := en) (dn := dn) (rf := rf) (kk := kk) (th := th) ⟨h19, h20, h21, h22, hbb, hbl, hb3⟩ hn1 hn2 gm gr gx 1 1 (by first | assumption | omega) (by first | assumption | omega) (kc := 0) (ks := 0)) hdp (st := []) (Nat.le_of_ble_eq_true rfl) rfl (kr_I fun v3 w3 hv3 hw3 => ?_) kx_I
      obtain ⟨hR3, hFc3⟩ := hw3
      obtain ⟨h19_3, h20_3, h21_3, h22_3, hbb_3, hbl_3, hb3_3⟩ := hR3
      have hF3 := hF.tr hFc3
      subst hv3
      show J X mX8_comes d kc ks 29 [some (.ref 19), some (.int s), some (.int a)] [.int (nI 1)] w3 _
      refine J_if_eqN (pc := 29) (tgt := 36) dX8_comes_29 (by decide) (by decide) (fun h => absurd h (by decide)) (fun _ => ?_)
      refine J_iconst (pc := 32) (v := nI 0) dX8_comes_32 (by decide) ?_
      refine J_goto (pc := 33) (tgt := 42) dX8_comes_33 (by decide) ?_
      exact J_iret (pc := 42) dX8_comes_42 rfl ⟨trivial, ⟨nI (tW 1 1), ⟨h19_3, h20_3, h21_3, h22_3, hbb_3, hbl_3, hb3_3⟩, hF3⟩⟩
    · refine J_if_neN (pc := 18) (tgt := 25) dX8_comes_18 (by decide) (by decide) (fun _ => ?_) (fun h => absurd h (by decide))
      refine J_iconst (pc := 25) (v := nI 0) dX8_comes_25 (by decide) ?_
      refine J_callV0 (pc := 26) (M := mX8_comes) (as := [.int (nI 1), .int (nI 0)]) dX8_comes_26 fw_X8_isThrown fl_X8_35 fm_X8_isThrown fe_X8_isThrown h19 (by decide) rfl rfl rfl (c_X8_isThrown hs (d := d - 1) (Nat.le_trans (by decide) hdm) (w := w) (n := n) (mv := mv) (rw := rw) (nx := nx) (b := b) (bt := bt) (kn := kn) (en := en) (dn := dn) (rf := rf) (kk := kk) (th := th) ⟨h19, h20, h21, h22, hbb, hbl, hb3⟩ hn1 hn2 gm gr gx 1 0 (by first | assumption | omega) (by first | assumption | omega) (kc := 0) (ks := 0)) hdp (st := []) (Nat.le_of_ble_eq_true rfl) rfl (kr_I fun v4 w4 hv4 hw4 => ?_) kx_I
      obtain ⟨hR4, hFc4⟩ := hw4
      obtain ⟨h19_4, h20_4, h21_4, h22_4, hbb_4, hbl_4, hb3_4⟩ := hR4
      have hF4 := hF.tr hFc4
      subst hv4
      show J X mX8_comes d kc ks 29 [some (.ref 19), some (.int (nI q2)), some (.int a)] [.int (nI 1)] w4 _
      refine J_if_eqN (pc := 29) (tgt := 36) dX8_comes_29 (by decide) (by decide) (fun h => absurd h (by decide)) (fun _ => ?_)
      refine J_iconst (pc := 32) (v := nI 0) dX8_comes_32 (by decide) ?_
      refine J_goto (pc := 33) (tgt := 42) dX8_comes_33 (by decide) ?_
      exact J_iret (pc := 42) dX8_comes_42 rfl ⟨trivial, ⟨nI (tW 1 0), ⟨h19_4, h20_4, h21_4, h22_4, hbb_4, hbl_4, hb3_4⟩, hF4⟩⟩
  · refine J_if_neN (pc := 6) (tgt := 13) dX8_comes_6 (by decide) (by decide) (fun _ => ?_) (fun h => absurd h (by decide))
    refine J_iconst (pc := 13) (v := nI 0) dX8_comes_13 (by decide) ?_
    refine J_iload_n (pc := 14) dX8_comes_14 rfl rfl ?_
    refine J_callS0 (pc := 15) (M := mX8_comes) (as := [.int s]) dX8_comes_15 fw_X8_isSet fl_X8_134 fs_X8_isSet rfl (c_X8_isSet hs (d := d - 1) (Nat.le_trans (by decide) hdm) (w := w) s (kc := 0) (ks := 0)) hdp (st := [.int (nI 0), .ref 19]) (Nat.le_of_ble_eq_true rfl) rfl (kr_P fun v5 hv5 => ?_) kx_I
    rcases hv5 with ⟨rfl, hk5_0⟩ | ⟨q5, rfl, hk5_0, rfl⟩
    · refine J_if_neN (pc := 18) (tgt := 25) dX8_comes_18 (by decide) (by decide) (fun h => absurd h (by decide)) (fun _ => ?_)
      refine J_iconst (pc := 21) (v := nI 1) dX8_comes_21 (by decide) ?_
      refine J_goto (pc := 22) (tgt := 26) dX8_comes_22 (by decide) ?_
      refine J_callV0 (pc := 26) (M := mX8_comes) (as := [.int (nI 0), .int (nI 1)]) dX8_comes_26 fw_X8_isThrown fl_X8_35 fm_X8_isThrown fe_X8_isThrown h19 (by decide) rfl rfl rfl (c_X8_isThrown hs (d := d - 1) (Nat.le_trans (by decide) hdm) (w := w) (n := n) (mv := mv) (rw := rw) (nx := nx) (b := b) (bt := bt) (kn := kn) (en := en) (dn := dn) (rf := rf) (kk := kk) (th := th) ⟨h19, h20, h21, h22, hbb, hbl, hb3⟩ hn1 hn2 gm gr gx 0 1 (by first | assumption | omega) (by first | assumption | omega) (kc := 0) (ks := 0)) hdp (st := []) (Nat.le_of_ble_eq_true rfl) rfl (kr_I fun v6 w6 hv6 hw6 => ?_) kx_I
      obtain ⟨hR6, hFc6⟩ := hw6
      obtain ⟨h19_6, h20_6, h21_6, h22_6, hbb_6, hbl_6, hb3_6⟩ := hR6
      have hF6 := hF.tr hFc6
      subst hv6
      show J X mX8_comes d kc ks 29 [some (.ref 19), some (.int s), some (.int (nI q1))] [.int (nI 1)] w6 _
      refine J_if_eqN (pc := 29) (tgt := 36) dX8_comes_29 (by decide) (by decide) (fun h => absurd h (by decide)) (fun _ => ?_)
      refine J_iconst (pc := 32) (v := nI 0) dX8_comes_32 (by decide) ?_
      refine J_goto (pc := 33) (tgt := 42) dX8_comes_33 (by decide) ?_
      exact J_iret (pc := 42) dX8_comes_42 rfl ⟨trivial, ⟨nI (tW 0 1), ⟨h19_6, h20_6, h21_6, h22_6, hbb_6, hbl_6, hb3_6⟩, hF6⟩⟩
    · refine J_if_neN (pc := 18) (tgt := 25) dX8_comes_18 (by decide) (by decide) (fun _ => ?_) (fun h => absurd h (by decide))
      refine J_iconst (pc := 25) (v := nI 0) dX8_comes_25 (by decide) ?_
      refine J_callV0 (pc := 26) (M := mX8_comes) (as := [.int (nI 0), .int (nI 0)]) dX8_comes_26 fw_X8_isThrown fl_X8_35 fm_X8_isThrown fe_X8_isThrown h19 (by decide) rfl rfl rfl (c_X8_isThrown hs (d := d - 1) (Nat.le_trans (by decide) hdm) (w := w) (n := n) (mv := mv) (rw := rw) (nx := nx) (b := b) (bt := bt) (kn := kn) (en := en) (dn := dn) (rf := rf) (kk := kk) (th := th) ⟨h19, h20, h21, h22, hbb, hbl, hb3⟩ hn1 hn2 gm gr gx 0 0 (by first | assumption | omega) (by first | assumption | omega) (kc := 0) (ks := 0)) hdp (st := []) (Nat.le_of_ble_eq_true rfl) rfl (kr_I fun v7 w7 hv7 hw7 => ?_) kx_I
      obtain ⟨hR7, hFc7⟩ := hw7
      obtain ⟨h19_7, h20_7, h21_7, h22_7, hbb_7, hbl_7, hb3_7⟩ := hR7
      have hF7 := hF.tr hFc7
      subst hv7
      show J X mX8_comes d kc ks 29 [some (.ref 19), some (.int (nI q5)), some (.int (nI q1))] [.int (nI 0)] w7 _
      refine J_if_eqN (pc := 29) (tgt := 36) dX8_comes_29 (by decide) (by decide) (fun _ => ?_) (fun h => absurd h (by decide))
      refine J_aload_n (pc := 36) dX8_comes_36 rfl rfl rfl ?_
      refine J_iload_n (pc := 37) dX8_comes_37 rfl rfl ?_
      refine J_iload_n (pc := 38) dX8_comes_38 rfl rfl ?_
      refine J_callV0 (pc := 39) (M := mX8_comes) (as := [.int (nI q5), .int (nI q1)]) dX8_comes_39 fw_X8_comesNow fl_X8_188 fm_X8_comesNow fe_X8_comesNow h19_7 (by decide) rfl rfl rfl (c_X8_comesNow hs (d := d - 1) (Nat.le_trans (by decide) hdm) (w := w7) (n := n) (mv := mv) (rw := rw) (nx := nx) (b := b) (bt := bt) (kn := kn) (en := en) (dn := dn) (rf := rf) (kk := kk) (th := nI (tW 0 0)) ⟨h19_7, h20_7, h21_7, h22_7, hbb_7, hbl_7, hb3_7⟩ hn1 hn2 gm gr gx q5 q1 (by first | assumption | omega) (by first | assumption | omega) (kc := 0) (ks := 0)) hdp (st := []) (Nat.le_of_ble_eq_true rfl) rfl (kr_P fun v8 hv8 => ?_) kx_I
      exact J_iret (pc := 42) dX8_comes_42 rfl ⟨trivial, ⟨nI (tW 0 0), ⟨h19_7, h20_7, h21_7, h22_7, hbb_7, hbl_7, hb3_7⟩, hF7⟩⟩
set_option maxRecDepth 100000 in
set_option maxHeartbeats 40000000 in
theorem c_X8_piecesNow {X : jX} (hs : X.1.stackTraces = false) {d : Nat} (hd : 2 ≤ d) {n : Nat} {mv rw nx : Nat → Nat} {b : Nat} {bt : List Int32} {kn en dn rf kk th : Int32} {w : List jC} (hR : RM n mv rw nx b bt kn en dn rf kk th w) (hn1 : 2 ≤ n) (hn2 : n ≤ 7) (gm : ∀ i, mv i < 7) (gr : ∀ i, rw i < 7) (gx : ∀ i, nx i < 7) (s : Nat) (hy0 : s < 64) {kc ks : Nat} : jMet X mX8_piecesNow d kc ks [.ref 19, .int (nI s)] w (pI (fun v => ∃ k : Nat, v = nI k ∧ k ≤ n) (fun w' => w' = w)) := by
  refine jMet_of hs (by decide +kernel) (Nat.le_of_ble_eq_true rfl) (L := [some (.ref 19), some (.int (nI s)), none, none]) rfl ?_
  have hdm : 1 ≤ d - 1 := by omega
  have hdp : d - 1 + 1 ≤ d := by omega
  have hfc := fc_7 hn2
  have hfp := fc_pos n
  obtain ⟨h19, h20, h21, h22, hbb, hbl, hb3⟩ := hR
  have hF : FR b b w w := FR.rf
  refine J_iconst (pc := 0) (v := nI 0) dX8_piecesNow_0 (by decide) ?_
  refine J_istore_n (pc := 1) dX8_piecesNow_1 rfl (by decide) rfl ?_
  show J X mX8_piecesNow d kc ks 2 [some (.ref 19), some (.int (nI s)), some (.int (nI 0)), none] [] w _
  refine J_iconst (pc := 2) (v := nI 0) dX8_piecesNow_2 (by decide) ?_
  refine J_istore_n (pc := 3) dX8_piecesNow_3 rfl (by decide) rfl ?_
  show J X mX8_piecesNow d kc ks 4 [some (.ref 19), some (.int (nI s)), some (.int (nI 0)), some (.int (nI 0))] [] w _
  have lp4_1 : ∀ (fuel : Nat) (y2 : Nat) (c3 : Nat), (y2 ≤ c3) → (c3 ≤ n) → (n - c3 < fuel) → J X mX8_piecesNow d kc ks 4 [some (.ref 19), some (.int (nI s)), some (.int (nI y2)), some (.int (nI c3))] [] w (pI (fun v => ∃ k : Nat, v = nI k ∧ k ≤ n) (fun w' => w' = w)) := by
    intro fuellp4_1
    induction fuellp4_1 with
    | zero => intros; omega
    | succ fuellp4_1 ihlp4_1 =>
      intro y2 c3 hv4_0 hv4_1 hf2
      refine J_iload_n (pc := 4) dX8_piecesNow_4 rfl rfl ?_
      refine J_aload_n (pc := 5) dX8_piecesNow_5 rfl rfl rfl ?_
      refine J_get (pc := 6) (k := 0) dX8_piecesNow_6 kC9 (by decide) ff_X8_7 h19 rfl ?_
      refine J_icmp_geN (pc := 9) (tgt := 41) dX8_piecesNow_9 (by decide) (by omega) (by omega) (fun ht3 => ?_) (fun hf4 => ?_)
      · refine J_iload_n (pc := 41) dX8_piecesNow_41 rfl rfl ?_
        exact J_iret (pc := 42) dX8_piecesNow_42 rfl ⟨⟨y2, rfl, by omega⟩, rfl⟩
      · refine J_iload_n (pc := 12) dX8_piecesNow_12 rfl rfl ?_
        refine J_aload_n (pc := 13) dX8_piecesNow_13 rfl rfl rfl ?_
        refine J_iload_n (pc := 14) dX8_piecesNow_14 rfl rfl ?_
        refine J_iload_n (pc := 15) dX8_piecesNow_15 rfl rfl ?_
        refine J_callV0 (pc := 16) (M := mX8_piecesNow) (as := [.int (nI s), .int (nI c3)]) dX8_piecesNow_16 fw_X8_comesNow fl_X8_188 fm_X8_comesNow fe_X8_comesNow h19 (by decide) rfl rfl rfl (c_X8_comesNow hs (d := d - 1) (Nat.le_trans (by decide) hdm) (w := w) (n := n) (mv := mv) (rw := rw) (nx := nx) (b := b) (bt := bt) (kn := kn) (en := en) (dn := dn) (rf := rf) (kk := kk) (th := th) ⟨h19, h20, h21, h22, hbb, hbl, hb3⟩ hn1 hn2 gm gr gx s c3 (by first | assumption | omega) (by first | assumption | omega) (kc := 0) (ks := 0)) hdp (st := [.int (nI y2)]) (Nat.le_of_ble_eq_true rfl) rfl (kr_P fun v5 hv5 => ?_) kx_I
        refine J_iconst (pc := 19) (v := nI 1) dX8_piecesNow_19 (by decide) ?_
        refine J_iload_n (pc := 20) dX8_piecesNow_20 rfl rfl ?_
        refine J_ishl (pc := 21) dX8_piecesNow_21 (J_absI fun x6 => ?_)
        refine J_iconst (pc := 22) (v := nI 1) dX8_piecesNow_22 (by decide) ?_
        refine J_isub (pc := 23) dX8_piecesNow_23 (J_absI fun x7 => ?_)
        refine J_iand (pc := 24) dX8_piecesNow_24 (J_absI fun x8 => ?_)
        refine J_if_ne (pc := 25) (tgt := 32) dX8_piecesNow_25 (by decide) (fun ht9 => ?_) (fun hf10 => ?_)
        · refine J_iconst (pc := 32) (v := nI 0) dX8_piecesNow_32 (by decide) ?_
          refine J_iaddN (pc := 33) dX8_piecesNow_33 ?_
          refine J_istore_n (pc := 34) dX8_piecesNow_34 rfl (by decide) rfl ?_
          show J X mX8_piecesNow d kc ks 35 [some (.ref 19), some (.int (nI s)), some (.int (nI (y2 + 0))), some (.int (nI c3))] [] w _
          refine J_iincN (pc := 35) (b := 1) dX8_piecesNow_35 rfl (by decide) (by decide) rfl ?_
          show J X mX8_piecesNow d kc ks 38 [some (.ref 19), some (.int (nI s)), some (.int (nI (y2 + 0))), some (.int (nI (c3 + 1)))] [] w _
          refine J_goto (pc := 38) (tgt := 4) dX8_piecesNow_38 (by decide) ?_
          exact J_sub (L' := [some (.ref 19), some (.int (nI s)), some (.int (nI (y2 + 0))), some (.int (nI (c3 + 1)))]) ⟨rfl, ⟨rfl, ⟨rfl, ⟨rfl, trivial⟩⟩⟩⟩ (ihlp4_1 (y2 + 0) (c3 + 1) (by first | assumption | omega) (by first | assumption | omega) (by omega))
        · refine J_iconst (pc := 28) (v := nI 1) dX8_piecesNow_28 (by decide) ?_
          refine J_goto (pc := 29) (tgt := 33) dX8_piecesNow_29 (by decide) ?_
          refine J_iaddN (pc := 33) dX8_piecesNow_33 ?_
          refine J_istore_n (pc := 34) dX8_piecesNow_34 rfl (by decide) rfl ?_
          show J X mX8_piecesNow d kc ks 35 [some (.ref 19), some (.int (nI s)), some (.int (nI (y2 + 1))), some (.int (nI c3))] [] w _
          refine J_iincN (pc := 35) (b := 1) dX8_piecesNow_35 rfl (by decide) (by decide) rfl ?_
          show J X mX8_piecesNow d kc ks 38 [some (.ref 19), some (.int (nI s)), some (.int (nI (y2 + 1))), some (.int (nI (c3 + 1)))] [] w _
          refine J_goto (pc := 38) (tgt := 4) dX8_piecesNow_38 (by decide) ?_
          exact J_sub (L' := [some (.ref 19), some (.int (nI s)), some (.int (nI (y2 + 1))), some (.int (nI (c3 + 1)))]) ⟨rfl, ⟨rfl, ⟨rfl, ⟨rfl, trivial⟩⟩⟩⟩ (ihlp4_1 (y2 + 1) (c3 + 1) (by first | assumption | omega) (by first | assumption | omega) (by omega))
  exact J_sub (L' := [some (.ref 19), some (.int (nI s)), some (.int (nI 0)), some (.int (nI 0))]) ⟨rfl, ⟨rfl, ⟨rfl, ⟨rfl, trivial⟩⟩⟩⟩ (lp4_1 _ 0 0 (by first | assumption | omega) (by first | assumption | omega) (Nat.lt_succ_self _))
set_option maxRecDepth 100000 in
set_option maxHeartbeats 40000000 in
theorem c_X8_pieces {X : jX} (hs : X.1.stackTraces = false) {d : Nat} (hd : 3 ≤ d) {n : Nat} {mv rw nx : Nat → Nat} {b : Nat} {bt : List Int32} {kn en dn rf kk th : Int32} {w : List jC} (hR : RM n mv rw nx b bt kn en dn rf kk th w) (hn1 : 2 ≤ n) (hn2 : n ≤ 7) (gm : ∀ i, mv i < 7) (gr : ∀ i, rw i < 7) (gx : ∀ i, nx i < 7) (s : Int32) {kc ks : Nat} : jMet X mX8_pieces d kc ks [.ref 19, .int s] w (pI (fun _ => True) (fun w' => ∃ (th' : Int32), RM n mv rw nx b bt kn en dn rf kk th' w' ∧ FR b b w w')) := by
  refine jMet_of hs (by decide +kernel) (Nat.le_of_ble_eq_true rfl) (L := [some (.ref 19), some (.int s)]) rfl ?_
  have hdm : 2 ≤ d - 1 := by omega
  have hdp : d - 1 + 1 ≤ d := by omega
  have hfc := fc_7 hn2
  have hfp := fc_pos n
  obtain ⟨h19, h20, h21, h22, hbb, hbl, hb3⟩ := hR
  have hF : FR b b w w := FR.rf
  refine J_aload_n (pc := 0) dX8_pieces_0 rfl rfl rfl ?_
  refine J_iload_n (pc := 1) dX8_pieces_1 rfl rfl ?_
  refine J_callS0 (pc := 2) (M := mX8_pieces) (as := [.int s]) dX8_pieces_2 fw_X8_isSet fl_X8_134 fs_X8_isSet rfl (c_X8_isSet hs (d := d - 1) (Nat.le_trans (by decide) hdm) (w := w) s (kc := 0) (ks := 0)) hdp (st := [.ref 19]) (Nat.le_of_ble_eq_true rfl) rfl (kr_P fun v1 hv1 => ?_) kx_I
  rcases hv1 with ⟨rfl, hk1_0⟩ | ⟨q1, rfl, hk1_0, rfl⟩
  · refine J_if_neN (pc := 5) (tgt := 12) dX8_pieces_5 (by decide) (by decide) (fun h => absurd h (by decide)) (fun _ => ?_)
    refine J_iconst (pc := 8) (v := nI 1) dX8_pieces_8 (by decide) ?_
    refine J_goto (pc := 9) (tgt := 13) dX8_pieces_9 (by decide) ?_
    refine J_callV0 (pc := 13) (M := mX8_pieces) (as := [.int (nI 1)]) dX8_pieces_13 fw_X8_isThrown_ fl_X8_105 fm_X8_isThrown_ fe_X8_isThrown_ h19 (by decide) rfl rfl rfl (c_X8_isThrown_ hs (d := d - 1) (Nat.le_trans (by decide) hdm) (w := w) (n := n) (mv := mv) (rw := rw) (nx := nx) (b := b) (bt := bt) (kn := kn) (en := en) (dn := dn) (rf := rf) (kk := kk) (th := th) ⟨h19, h20, h21, h22, hbb, hbl, hb3⟩ hn1 hn2 gm gr gx 1 (by first | assumption | omega) (kc := 0) (ks := 0)) hdp (st := []) (Nat.le_of_ble_eq_true rfl) rfl (kr_I fun v2 w2 hv2 hw2 => ?_) kx_I
    obtain ⟨hR2, hFc2⟩ := hw2
    obtain ⟨h19_2, h20_2, h21_2, h22_2, hbb_2, hbl_2, hb3_2⟩ := hR2
    have hF2 := hF.tr hFc2
    subst hv2
    show J X mX8_pieces d kc ks 16 [some (.ref 19), some (.int s)] [.int (nI 1)] w2 _
    refine J_if_eqN (pc := 16) (tgt := 23) dX8_pieces_16 (by decide) (by decide) (fun h => absurd h (by decide)) (fun _ => ?_)
    refine J_iconst (pc := 19) (v := nI 0) dX8_pieces_19 (by decide) ?_
    refine J_goto (pc := 20) (tgt := 28) dX8_pieces_20 (by decide) ?_
    exact J_iret (pc := 28) dX8_pieces_28 rfl ⟨trivial, ⟨nI (tW 1 0), ⟨h19_2, h20_2, h21_2, h22_2, hbb_2, hbl_2, hb3_2⟩, hF2⟩⟩
  · refine J_if_neN (pc := 5) (tgt := 12) dX8_pieces_5 (by decide) (by decide) (fun _ => ?_) (fun h => absurd h (by decide))
    refine J_iconst (pc := 12) (v := nI 0) dX8_pieces_12 (by decide) ?_
    refine J_callV0 (pc := 13) (M := mX8_pieces) (as := [.int (nI 0)]) dX8_pieces_13 fw_X8_isThrown_ fl_X8_105 fm_X8_isThrown_ fe_X8_isThrown_ h19 (by decide) rfl rfl rfl (c_X8_isThrown_ hs (d := d - 1) (Nat.le_trans (by decide) hdm) (w := w) (n := n) (mv := mv) (rw := rw) (nx := nx) (b := b) (bt := bt) (kn := kn) (en := en) (dn := dn) (rf := rf) (kk := kk) (th := th) ⟨h19, h20, h21, h22, hbb, hbl, hb3⟩ hn1 hn2 gm gr gx 0 (by first | assumption | omega) (kc := 0) (ks := 0)) hdp (st := []) (Nat.le_of_ble_eq_true rfl) rfl (kr_I fun v3 w3 hv3 hw3 => ?_) kx_I
    obtain ⟨hR3, hFc3⟩ := hw3
    obtain ⟨h19_3, h20_3, h21_3, h22_3, hbb_3, hbl_3, hb3_3⟩ := hR3
    have hF3 := hF.tr hFc3
    subst hv3
    show J X mX8_pieces d kc ks 16 [some (.ref 19), some (.int (nI q1))] [.int (nI 0)] w3 _
    refine J_if_eqN (pc := 16) (tgt := 23) dX8_pieces_16 (by decide) (by decide) (fun _ => ?_) (fun h => absurd h (by decide))
    refine J_aload_n (pc := 23) dX8_pieces_23 rfl rfl rfl ?_
    refine J_iload_n (pc := 24) dX8_pieces_24 rfl rfl ?_
    refine J_callV0 (pc := 25) (M := mX8_pieces) (as := [.int (nI q1)]) dX8_pieces_25 fw_X8_piecesNow fl_X8_191 fm_X8_piecesNow fe_X8_piecesNow h19_3 (by decide) rfl rfl rfl (c_X8_piecesNow hs (d := d - 1) (Nat.le_trans (by decide) hdm) (w := w3) (n := n) (mv := mv) (rw := rw) (nx := nx) (b := b) (bt := bt) (kn := kn) (en := en) (dn := dn) (rf := rf) (kk := kk) (th := nI (tW 0 0)) ⟨h19_3, h20_3, h21_3, h22_3, hbb_3, hbl_3, hb3_3⟩ hn1 hn2 gm gr gx q1 (by first | assumption | omega) (kc := 0) (ks := 0)) hdp (st := []) (Nat.le_of_ble_eq_true rfl) rfl (kr_P fun v4 hv4 => ?_) kx_I
    obtain ⟨k4, rfl, hk4⟩ := hv4
    exact J_iret (pc := 28) dX8_pieces_28 rfl ⟨trivial, ⟨nI (tW 0 0), ⟨h19_3, h20_3, h21_3, h22_3, hbb_3, hbl_3, hb3_3⟩, hF3⟩⟩
end
section
/-! contracts of the reference: rspec4 -/
set_option maxRecDepth 100000 in
set_option maxHeartbeats 40000000 in
theorem c_X8_withOrder {X : jX} (hs : X.1.stackTraces = false) {d : Nat} (hd : 10 ≤ d) {n : Nat} {mv rw nx : Nat → Nat} {b : Nat} {bt : List Int32} {kn en dn rf kk th : Int32} {w : List jC} (hR : RM n mv rw nx b bt kn en dn rf kk th w) (hn1 : 2 ≤ n) (hn2 : n ≤ 7) (gm : ∀ i, mv i < 7) (gr : ∀ i, rw i < 7) (gx : ∀ i, nx i < 7) (s : Int32) (c : Int32) (hy0 : PM n mv) (hy1 : KX n mv kn bt) {kc ks : Nat} (hkc : 13 ≤ kc) (hks : 2054 ≤ ks) : jMet X mX8_withOrder d kc ks [.ref 19, .int s, .int c] w (pI (fun _ => True) (fun w' => ∃ (rw' : Nat → Nat), ∃ (nx' : Nat → Nat), ∃ (b' : Nat), ∃ (bt' : List Int32), ∃ (kn' : Int32), ∃ (en' : Int32), ∃ (th' : Int32), RM n mv rw' nx' b' bt' kn' en' dn rf kk th' w' ∧ FR b b' w w' ∧ (∀ i, rw' i < 7) ∧ (∀ i, nx' i < 7) ∧ KX n mv kn' bt')) := by
  refine jMet_of hs (by decide +kernel) (Nat.le_of_ble_eq_true rfl) (L := [some (.ref 19), some (.int s), some (.int c), none, none]) rfl ?_
  have hdm : 9 ≤ d - 1 := by omega
  have hdp : d - 1 + 1 ≤ d := by omega
  have hfc := fc_7 hn2
  have hfp := fc_pos n
  obtain ⟨h19, h20, h21, h22, hbb, hbl, hb3⟩ := hR
  have hF : FR b b w w := FR.rf
  refine J_aload_n (pc := 0) dX8_withOrder_0 rfl rfl rfl ?_
  refine J_iload_n (pc := 1) dX8_withOrder_1 rfl rfl ?_
  refine J_callS0 (pc := 2) (M := mX8_withOrder) (as := [.int s]) dX8_withOrder_2 fw_X8_isSet fl_X8_134 fs_X8_isSet rfl (c_X8_isSet hs (d := d - 1) (Nat.le_trans (by decide) hdm) (w := w) s (kc := 0) (ks := 0)) hdp (st := [.ref 19]) (Nat.le_of_ble_eq_true rfl) rfl (kr_P fun v1 hv1 => ?_) kx_I
  rcases hv1 with ⟨rfl, hk1_0⟩ | ⟨q1, rfl, hk1_0, rfl⟩
  · refine J_if_eqN (pc := 5) (tgt := 19) dX8_withOrder_5 (by decide) (by decide) (fun _ => ?_) (fun h => absurd h (by decide))
    refine J_iconst (pc := 19) (v := nI 1) dX8_withOrder_19 (by decide) ?_
    refine J_goto (pc := 20) (tgt := 24) dX8_withOrder_20 (by decide) ?_
    refine J_callV0 (pc := 24) (M := mX8_withOrder) (as := [.int (nI 1)]) dX8_withOrder_24 fw_X8_isThrown_ fl_X8_105 fm_X8_isThrown_ fe_X8_isThrown_ h19 (by decide) rfl rfl rfl (c_X8_isThrown_ hs (d := d - 1) (Nat.le_trans (by decide) hdm) (w := w) (n := n) (mv := mv) (rw := rw) (nx := nx) (b := b) (bt := bt) (kn := kn) (en := en) (dn := dn) (rf := rf) (kk := kk) (th := th) ⟨h19, h20, h21, h22, hbb, hbl, hb3⟩ hn1 hn2 gm gr gx 1 (by first | assumption | omega) (kc := 0) (ks := 0)) hdp (st := []) (Nat.le_of_ble_eq_true rfl) rfl (kr_I fun v2 w2 hv2 hw2 => ?_) kx_I
    obtain ⟨hR2, hFc2⟩ := hw2
    obtain ⟨h19_2, h20_2, h21_2, h22_2, hbb_2, hbl_2, hb3_2⟩ := hR2
    have hF2 := hF.tr hFc2
    subst hv2
    show J X mX8_withOrder d kc ks 27 [some (.ref 19), some (.int s), some (.int c), none, none] [.int (nI 1)] w2 _
    refine J_if_eqN (pc := 27) (tgt := 32) dX8_withOrder_27 (by decide) (by decide) (fun h => absurd h (by decide)) (fun _ => ?_)
    refine J_iconst (pc := 30) (v := nI 0) dX8_withOrder_30 (by decide) ?_
    exact J_iret (pc := 31) dX8_withOrder_31 rfl ⟨trivial, ⟨rw, nx, b, bt, kn, en, nI (tW 1 0), ⟨h19_2, h20_2, h21_2, h22_2, hbb_2, hbl_2, hb3_2⟩, hF2, gr, gx, (by first | assumption | exact KX_i (by assumption) (by omega) (by first | rfl | assumption))⟩⟩
  · refine J_if_eqN (pc := 5) (tgt := 19) dX8_withOrder_5 (by decide) (by decide) (fun h => absurd h (by decide)) (fun _ => ?_)
    refine J_iload_n (pc := 8) dX8_withOrder_8 rfl rfl ?_
    refine J_iconst (pc := 9) (v := nI 1) dX8_withOrder_9 (by decide) ?_
    refine J_icmp_lt (pc := 10) (tgt := 19) dX8_withOrder_10 (by decide) (fun ht3 => ?_) (fun hf4 => ?_)
    · refine J_iconst (pc := 19) (v := nI 1) dX8_withOrder_19 (by decide) ?_
      refine J_goto (pc := 20) (tgt := 24) dX8_withOrder_20 (by decide) ?_
      refine J_callV0 (pc := 24) (M := mX8_withOrder) (as := [.int (nI 1)]) dX8_withOrder_24 fw_X8_isThrown_ fl_X8_105 fm_X8_isThrown_ fe_X8_isThrown_ h19 (by decide) rfl rfl rfl (c_X8_isThrown_ hs (d := d - 1) (Nat.le_trans (by decide) hdm) (w := w) (n := n) (mv := mv) (rw := rw) (nx := nx) (b := b) (bt := bt) (kn := kn) (en := en) (dn := dn) (rf := rf) (kk := kk) (th := th) ⟨h19, h20, h21, h22, hbb, hbl, hb3⟩ hn1 hn2 gm gr gx 1 (by first | assumption | omega) (kc := 0) (ks := 0)) hdp (st := []) (Nat.le_of_ble_eq_true rfl) rfl (kr_I fun v5 w5 hv5 hw5 => ?_) kx_I
      obtain ⟨hR5, hFc5⟩ := hw5
      obtain ⟨h19_5, h20_5, h21_5, h22_5, hbb_5, hbl_5, hb3_5⟩ := hR5
      have hF5 := hF.tr hFc5
      subst hv5
      show J X mX8_withOrder d kc ks 27 [some (.ref 19), some (.int (nI q1)), some (.int c), none, none] [.int (nI 1)] w5 _
      refine J_if_eqN (pc := 27) (tgt := 32) dX8_withOrder_27 (by decide) (by decide) (fun h => absurd h (by decide)) (fun _ => ?_)
      refine J_iconst (pc := 30) (v := nI 0) dX8_withOrder_30 (by decide) ?_
      exact J_iret (pc := 31) dX8_withOrder_31 rfl ⟨trivial, ⟨rw, nx, b, bt, kn, en, nI (tW 1 0), ⟨h19_5, h20_5, h21_5, h22_5, hbb_5, hbl_5, hb3_5⟩, hF5, gr, gx, (by first | assumption | exact KX_i (by assumption) (by omega) (by first | rfl | assumption))⟩⟩
    · refine J_iload_n (pc := 13) dX8_withOrder_13 rfl rfl ?_
      refine J_bipush (pc := 14) (v := nI 12) dX8_withOrder_14 (by decide) ?_
      refine J_icmp_le (pc := 16) (tgt := 23) dX8_withOrder_16 (by decide) (fun ht6 => ?_) (fun hf7 => ?_)
      · refine J_iconst (pc := 23) (v := nI 0) dX8_withOrder_23 (by decide) ?_
        refine J_callV0 (pc := 24) (M := mX8_withOrder) (as := [.int (nI 0)]) dX8_withOrder_24 fw_X8_isThrown_ fl_X8_105 fm_X8_isThrown_ fe_X8_isThrown_ h19 (by decide) rfl rfl rfl (c_X8_isThrown_ hs (d := d - 1) (Nat.le_trans (by decide) hdm) (w := w) (n := n) (mv := mv) (rw := rw) (nx := nx) (b := b) (bt := bt) (kn := kn) (en := en) (dn := dn) (rf := rf) (kk := kk) (th := th) ⟨h19, h20, h21, h22, hbb, hbl, hb3⟩ hn1 hn2 gm gr gx 0 (by first | assumption | omega) (kc := 0) (ks := 0)) hdp (st := []) (Nat.le_of_ble_eq_true rfl) rfl (kr_I fun v8 w8 hv8 hw8 => ?_) kx_I
        obtain ⟨hR8, hFc8⟩ := hw8
        obtain ⟨h19_8, h20_8, h21_8, h22_8, hbb_8, hbl_8, hb3_8⟩ := hR8
        have hF8 := hF.tr hFc8
        subst hv8
        show J X mX8_withOrder d kc ks 27 [some (.ref 19), some (.int (nI q1)), some (.int c), none, none] [.int (nI 0)] w8 _
        refine J_if_eqN (pc := 27) (tgt := 32) dX8_withOrder_27 (by decide) (by decide) (fun _ => ?_) (fun h => absurd h (by decide))
        refine J_aload_n (pc := 32) dX8_withOrder_32 rfl rfl rfl ?_
        refine J_iload_n (pc := 33) dX8_withOrder_33 rfl rfl ?_
        refine J_callV (pc := 34) (M := mX8_withOrder) (as := [.int (nI q1)]) dX8_withOrder_34 fw_X8_group fl_X8_99 fm_X8_group fe_X8_group h19_8 (by decide) rfl rfl rfl (c_X8_group_ate hs (d := d - 1) (Nat.le_trans (by decide) hdm) (w := w8) (n := n) (mv := mv) (rw := rw) (nx := nx) (b := b) (bt := bt) (kn := kn) (en := en) (dn := dn) (rf := rf) (kk := kk) (th := nI (tW 0 0)) ⟨h19_8, h20_8, h21_8, h22_8, hbb_8, hbl_8, hb3_8⟩ hn1 hn2 gm gr gx q1 (by first | assumption | omega) (by first | assumption | omega) (by first | assumption | omega) (kc := 13) (ks := 2054) (Nat.le_refl _) (Nat.le_refl _)) hdp (by omega) (by omega) (st := []) (Nat.le_of_ble_eq_true rfl) rfl (kr_V fun w9 hw9 => ?_) kx_V
        obtain ⟨rw9, nx9, b9, bt9, kn9, en9, hR9, hFc9, hgrw9, hgnx9, hp9_0, hp9_1⟩ := hw9
        obtain ⟨h19_9, h20_9, h21_9, h22_9, hbb_9, hbl_9, hb3_9⟩ := hR9
        have qd9 := hFc9.2.1
        have hF9 := hF8.tr hFc9
        refine J_iconst (pc := 37) (v := nI 0) dX8_withOrder_37 (by decide) ?_
        refine J_istore_n (pc := 38) dX8_withOrder_38 rfl (by decide) rfl ?_
        show J X mX8_withOrder d (kc - 13) (ks - 2054) 39 [some (.ref 19), some (.int (nI q1)), some (.int c), some (.int (nI 0)), none] [] w9 _
        refine J_aload_n (pc := 39) dX8_withOrder_39 rfl rfl rfl ?_
        refine J_iconst (pc := 40) (v := nI 0) dX8_withOrder_40 (by decide) ?_
        refine J_callV0 (pc := 41) (M := mX8_withOrder) (as := [.int (nI 0)]) dX8_withOrder_41 fw_X8_from fl_X8_137 fm_X8_from fe_X8_from h19_9 (by decide) rfl rfl rfl (c_X8_from hs (d := d - 1) (Nat.le_trans (by decide) hdm) (w := w9) (n := n) (mv := mv) (rw := rw9) (nx := nx9) (b := b9) (bt := bt9) (kn := kn9) (en := en9) (dn := dn) (rf := rf) (kk := kk) (th := nI (tW 0 0)) ⟨h19_9, h20_9, h21_9, h22_9, hbb_9, hbl_9, hb3_9⟩ hn1 hn2 gm hgrw9 hgnx9 0 (by first | assumption | omega) (kc := 0) (ks := 0)) hdp (st := []) (Nat.le_of_ble_eq_true rfl) rfl (kr_P fun v10 hv10 => ?_) kx_I
        rcases hv10 with ⟨rfl, hk10_0⟩ | ⟨q10, rfl, hk10_0, hk10_1, hk10_2, hk10_3⟩
        · refine J_istore (pc := 44) dX8_withOrder_44 (by decide) rfl ?_
          show J X mX8_withOrder d (kc - 13) (ks - 2054) 46 [some (.ref 19), some (.int (nI q1)), some (.int c), some (.int (nI 0)), some (.int (-1))] [] w9 _
          have lp46_11 : ∀ (fuel : Nat) (w12 : List jC) (rw_46 : Nat → Nat) (z3 : Int32) (c4 : Nat), (RM n mv rw_46 nx9 b9 bt9 kn9 en9 dn rf kk (nI (tW 0 0)) w12) → (FR b b9 w w12) → (∀ i, rw_46 i < 7) → (c4 ≤ fc n) → (mu (fc n) c4 < fuel) → J X mX8_withOrder d (kc - 13) (ks - 2054) 46 [some (.ref 19), some (.int (nI q1)), some (.int c), some (.int z3), some (.int (nI c4 + Int32.ofInt (-1)))] [] w12 (pI (fun _ => True) (fun w' => ∃ (rw' : Nat → Nat), ∃ (nx' : Nat → Nat), ∃ (b' : Nat), ∃ (bt' : List Int32), ∃ (kn' : Int32), ∃ (en' : Int32), ∃ (th' : Int32), RM n mv rw' nx' b' bt' kn' en' dn rf kk th' w' ∧ FR b b' w w' ∧ (∀ i, rw' i < 7) ∧ (∀ i, nx' i < 7) ∧ KX n mv kn' bt')) := by
            intro fuellp46_11
            induction fuellp46_11 with
            | zero => intros; omega
            | succ fuellp46_11 ihlp46_11 =>
              intro w12 rw_46 z3 c4 hR13 hF14 gr15 hv46_0 hf16
              obtain ⟨h19_17, h20_17, h21_17, h22_17, hb_17, hbl_17, hb3_17⟩ := hR13
              refine J_iload (pc := 46) dX8_withOrder_46 rfl ?_
              refine J_if_ltM (pc := 48) (tgt := 95) dX8_withOrder_48 (by decide) (by omega) (fun ht18 => ?_) (fun hf19 => ?_)
              · refine J_iload_n (pc := 95) dX8_withOrder_95 rfl rfl ?_
                exact J_iret (pc := 96) dX8_withOrder_96 rfl ⟨trivial, ⟨rw_46, nx9, b9, bt9, kn9, en9, nI (tW 0 0), ⟨h19_17, h20_17, h21_17, h22_17, hb_17, hbl_17, hb3_17⟩, hF14, gr15, hgnx9, (by first | assumption | exact KX_i (by assumption) (by omega) (by first | rfl | assumption))⟩⟩
              · rw [nI_m1 hf19]
                refine J_aload_n (pc := 51) dX8_withOrder_51 rfl rfl rfl ?_
                refine J_iload (pc := 52) dX8_withOrder_52 rfl ?_
                refine J_aload_n (pc := 54) dX8_withOrder_54 rfl rfl rfl ?_
                refine J_get (pc := 55) (k := 2) dX8_withOrder_55 kC9 (by decide) ff_X8_17 h19_17 rfl ?_
                refine J_callV0 (pc := 58) (M := mX8_withOrder) (as := [.int (nI (c4 - 1)), .ref 21]) dX8_withOrder_58 fw_X8_rowOf fl_X8_78 fm_X8_rowOf fe_X8_rowOf h19_17 (by decide) rfl rfl rfl (c_X8_rowOf hs (d := d - 1) (Nat.le_trans (by decide) hdm) (w := w12) (n := n) (mv := mv) (rw := rw_46) (nx := nx9) (b := b9) (bt := bt9) (kn := kn9) (en := en9) (dn := dn) (rf := rf) (kk := kk) (th := nI (tW 0 0)) ⟨h19_17, h20_17, h21_17, h22_17, hb_17, hbl_17, hb3_17⟩ hn1 hn2 gm gr15 hgnx9 (c4 - 1) (by first | assumption | omega) (kc := 0) (ks := 0)) hdp (st := []) (Nat.le_of_ble_eq_true rfl) rfl (kr_V fun w20 hw20 => ?_) kx_V
                obtain ⟨rw20, hR20, hFc20, hgrw20, hp20_0⟩ := hw20
                obtain ⟨h19_20, h20_20, h21_20, h22_20, hbb_20, hbl_20, hb3_20⟩ := hR20
                have hF20 := hF14.tr hFc20
                have hPr := Pn_row (by omega) hp20_0
                refine J_iload_n (pc := 61) dX8_withOrder_61 rfl rfl ?_
                refine J_aload_n (pc := 62) dX8_withOrder_62 rfl rfl rfl ?_
                refine J_aload_n (pc := 63) dX8_withOrder_63 rfl rfl rfl ?_
                refine J_get (pc := 64) (k := 2) dX8_withOrder_64 kC9 (by decide) ff_X8_17 h19_20 rfl ?_
                refine J_iconst (pc := 67) (v := nI 0) dX8_withOrder_67 (by decide) ?_
                refine J_callV0 (pc := 68) (M := mX8_withOrder) (as := [.ref 21, .int (nI 0)]) dX8_withOrder_68 fw_X8_orderOf fl_X8_172 fm_X8_orderOf fe_X8_orderOf h19_20 (by decide) rfl rfl rfl (c_X8_orderOf_at21 hs (d := d - 1) (Nat.le_trans (by decide) hdm) (w := w20) (n := n) (mv := mv) (rw := rw20) (nx := nx9) (b := b9) (bt := bt9) (kn := kn9) (en := en9) (dn := dn) (rf := rf) (kk := kk) (th := nI (tW 0 0)) ⟨h19_20, h20_20, h21_20, h22_20, hbb_20, hbl_20, hb3_20⟩ hn1 hn2 gm hgrw20 hgnx9 0 (by first | assumption | omega) (by exact Pn_z hPr) (kc := 0) (ks := 0)) hdp (st := [.int z3]) (Nat.le_of_ble_eq_true rfl) rfl (kr_P fun v21 hv21 => ?_) kx_I
                obtain ⟨k21, rfl, hk21⟩ := hv21
                refine J_iload_n (pc := 71) dX8_withOrder_71 rfl rfl ?_
                refine J_icmp_ne (pc := 72) (tgt := 79) dX8_withOrder_72 (by decide) (fun ht22 => ?_) (fun hf23 => ?_)
                · refine J_iconst (pc := 79) (v := nI 0) dX8_withOrder_79 (by decide) ?_
                  refine J_iadd (pc := 80) dX8_withOrder_80 (J_absI fun x24 => ?_)
                  refine J_istore_n (pc := 81) dX8_withOrder_81 rfl (by decide) rfl ?_
                  show J X mX8_withOrder d (kc - 13) (ks - 2054) 82 [some (.ref 19), some (.int (nI q1)), some (.int c), some (.int x24), some (.int (nI (c4 - 1)))] [] w20 _
                  refine J_aload_n (pc := 82) dX8_withOrder_82 rfl rfl rfl ?_
                  refine J_iload (pc := 83) dX8_withOrder_83 rfl ?_
                  refine J_iconst (pc := 85) (v := nI 1) dX8_withOrder_85 (by decide) ?_
                  refine J_iaddN (pc := 86) dX8_withOrder_86 ?_
                  refine J_callV0 (pc := 87) (M := mX8_withOrder) (as := [.int (nI ((c4 - 1) + 1))]) dX8_withOrder_87 fw_X8_from fl_X8_137 fm_X8_from fe_X8_from h19_20 (by decide) rfl rfl rfl (c_X8_from hs (d := d - 1) (Nat.le_trans (by decide) hdm) (w := w20) (n := n) (mv := mv) (rw := rw20) (nx := nx9) (b := b9) (bt := bt9) (kn := kn9) (en := en9) (dn := dn) (rf := rf) (kk := kk) (th := nI (tW 0 0)) ⟨h19_20, h20_20, h21_20, h22_20, hbb_20, hbl_20, hb3_20⟩ hn1 hn2 gm hgrw20 hgnx9 ((c4 - 1) + 1) (by first | assumption | omega) (kc := 0) (ks := 0)) hdp (st := []) (Nat.le_of_ble_eq_true rfl) rfl (kr_P fun v25 hv25 => ?_) kx_I
                  rcases hv25 with ⟨rfl, hk25_0⟩ | ⟨q25, rfl, hk25_0, hk25_1, hk25_2, hk25_3⟩
                  · refine J_istore (pc := 90) dX8_withOrder_90 (by decide) rfl ?_
                    show J X mX8_withOrder d (kc - 13) (ks - 2054) 92 [some (.ref 19), some (.int (nI q1)), some (.int c), some (.int x24), some (.int (-1))] [] w20 _
                    refine J_goto (pc := 92) (tgt := 46) dX8_withOrder_92 (by decide) ?_
                    exact J_sub (L' := [some (.ref 19), some (.int (nI q1)), some (.int c), some (.int x24), some (.int (nI 0 + Int32.ofInt (-1)))]) ⟨rfl, ⟨rfl, ⟨rfl, ⟨rfl, ⟨(congrArg (fun z => some (Value.int z)) (by decide : (-1 : Int32) = nI 0 + Int32.ofInt (-1))), trivial⟩⟩⟩⟩⟩ (ihlp46_11 w20 rw20 x24 0 ⟨h19_20, h20_20, h21_20, h22_20, hbb_20, hbl_20, hb3_20⟩ hF20 hgrw20 (by first | assumption | omega) (by exact mu_dec (by assumption) (by omega) (by omega) (by omega)))
                  · refine J_istore (pc := 90) dX8_withOrder_90 (by decide) rfl ?_
                    show J X mX8_withOrder d (kc - 13) (ks - 2054) 92 [some (.ref 19), some (.int (nI q1)), some (.int c), some (.int x24), some (.int (nI q25))] [] w20 _
                    refine J_goto (pc := 92) (tgt := 46) dX8_withOrder_92 (by decide) ?_
                    exact J_sub (L' := [some (.ref 19), some (.int (nI q1)), some (.int c), some (.int x24), some (.int (nI (q25 + 1) + Int32.ofInt (-1)))]) ⟨rfl, ⟨rfl, ⟨rfl, ⟨rfl, ⟨(congrArg (fun z => some (Value.int z)) (nI_n1 q25)), trivial⟩⟩⟩⟩⟩ (ihlp46_11 w20 rw20 x24 (q25 + 1) ⟨h19_20, h20_20, h21_20, h22_20, hbb_20, hbl_20, hb3_20⟩ hF20 hgrw20 (by first | assumption | omega) (by exact mu_dec (by assumption) (by omega) (by omega) (by omega)))
                · refine J_iconst (pc := 75) (v := nI 1) dX8_withOrder_75 (by decide) ?_
                  refine J_goto (pc := 76) (tgt := 80) dX8_withOrder_76 (by decide) ?_
                  refine J_iadd (pc := 80) dX8_withOrder_80 (J_absI fun x26 => ?_)
                  refine J_istore_n (pc := 81) dX8_withOrder_81 rfl (by decide) rfl ?_
                  show J X mX8_withOrder d (kc - 13) (ks - 2054) 82 [some (.ref 19), some (.int (nI q1)), some (.int c), some (.int x26), some (.int (nI (c4 - 1)))] [] w20 _
                  refine J_aload_n (pc := 82) dX8_withOrder_82 rfl rfl rfl ?_
                  refine J_iload (pc := 83) dX8_withOrder_83 rfl ?_
                  refine J_iconst (pc := 85) (v := nI 1) dX8_withOrder_85 (by decide) ?_
                  refine J_iaddN (pc := 86) dX8_withOrder_86 ?_
                  refine J_callV0 (pc := 87) (M := mX8_withOrder) (as := [.int (nI ((c4 - 1) + 1))]) dX8_withOrder_87 fw_X8_from fl_X8_137 fm_X8_from fe_X8_from h19_20 (by decide) rfl rfl rfl (c_X8_from hs (d := d - 1) (Nat.le_trans (by decide) hdm) (w := w20) (n := n) (mv := mv) (rw := rw20) (nx := nx9) (b := b9) (bt := bt9) (kn := kn9) (en := en9) (dn := dn) (rf := rf) (kk := kk) (th := nI (tW 0 0)) ⟨h19_20, h20_20, h21_20, h22_20, hbb_20, hbl_20, hb3_20⟩ hn1 hn2 gm hgrw20 hgnx9 ((c4 - 1) + 1) (by first | assumption | omega) (kc := 0) (ks := 0)) hdp (st := []) (Nat.le_of_ble_eq_true rfl) rfl (kr_P fun v27 hv27 => ?_) kx_I
                  rcases hv27 with ⟨rfl, hk27_0⟩ | ⟨q27, rfl, hk27_0, hk27_1, hk27_2, hk27_3⟩
                  · refine J_istore (pc := 90) dX8_withOrder_90 (by decide) rfl ?_
                    show J X mX8_withOrder d (kc - 13) (ks - 2054) 92 [some (.ref 19), some (.int (nI q1)), some (.int c), some (.int x26), some (.int (-1))] [] w20 _
                    refine J_goto (pc := 92) (tgt := 46) dX8_withOrder_92 (by decide) ?_
                    exact J_sub (L' := [some (.ref 19), some (.int (nI q1)), some (.int c), some (.int x26), some (.int (nI 0 + Int32.ofInt (-1)))]) ⟨rfl, ⟨rfl, ⟨rfl, ⟨rfl, ⟨(congrArg (fun z => some (Value.int z)) (by decide : (-1 : Int32) = nI 0 + Int32.ofInt (-1))), trivial⟩⟩⟩⟩⟩ (ihlp46_11 w20 rw20 x26 0 ⟨h19_20, h20_20, h21_20, h22_20, hbb_20, hbl_20, hb3_20⟩ hF20 hgrw20 (by first | assumption | omega) (by exact mu_dec (by assumption) (by omega) (by omega) (by omega)))
                  · refine J_istore (pc := 90) dX8_withOrder_90 (by decide) rfl ?_
                    show J X mX8_withOrder d (kc - 13) (ks - 2054) 92 [some (.ref 19), some (.int (nI q1)), some (.int c), some (.int x26), some (.int (nI q27))] [] w20 _
                    refine J_goto (pc := 92) (tgt := 46) dX8_withOrder_92 (by decide) ?_
                    exact J_sub (L' := [some (.ref 19), some (.int (nI q1)), some (.int c), some (.int x26), some (.int (nI (q27 + 1) + Int32.ofInt (-1)))]) ⟨rfl, ⟨rfl, ⟨rfl, ⟨rfl, ⟨(congrArg (fun z => some (Value.int z)) (nI_n1 q27)), trivial⟩⟩⟩⟩⟩ (ihlp46_11 w20 rw20 x26 (q27 + 1) ⟨h19_20, h20_20, h21_20, h22_20, hbb_20, hbl_20, hb3_20⟩ hF20 hgrw20 (by first | assumption | omega) (by exact mu_dec (by assumption) (by omega) (by omega) (by omega)))
          exact J_sub (L' := [some (.ref 19), some (.int (nI q1)), some (.int c), some (.int (nI 0)), some (.int (nI 0 + Int32.ofInt (-1)))]) ⟨rfl, ⟨rfl, ⟨rfl, ⟨rfl, ⟨(congrArg (fun z => some (Value.int z)) (by decide : (-1 : Int32) = nI 0 + Int32.ofInt (-1))), trivial⟩⟩⟩⟩⟩ (lp46_11 _ w9 rw9 (nI 0) 0 ⟨h19_9, h20_9, h21_9, h22_9, hbb_9, hbl_9, hb3_9⟩ hF9 hgrw9 (by first | assumption | omega) (Nat.lt_succ_self _))
        · refine J_istore (pc := 44) dX8_withOrder_44 (by decide) rfl ?_
          show J X mX8_withOrder d (kc - 13) (ks - 2054) 46 [some (.ref 19), some (.int (nI q1)), some (.int c), some (.int (nI 0)), some (.int (nI q10))] [] w9 _
          have lp46_28 : ∀ (fuel : Nat) (w29 : List jC) (rw_46 : Nat → Nat) (z3 : Int32) (c4 : Nat), (RM n mv rw_46 nx9 b9 bt9 kn9 en9 dn rf kk (nI (tW 0 0)) w29) → (FR b b9 w w29) → (∀ i, rw_46 i < 7) → (c4 ≤ fc n) → (mu (fc n) c4 < fuel) → J X mX8_withOrder d (kc - 13) (ks - 2054) 46 [some (.ref 19), some (.int (nI q1)), some (.int c), some (.int z3), some (.int (nI c4 + Int32.ofInt (-1)))] [] w29 (pI (fun _ => True) (fun w' => ∃ (rw' : Nat → Nat), ∃ (nx' : Nat → Nat), ∃ (b' : Nat), ∃ (bt' : List Int32), ∃ (kn' : Int32), ∃ (en' : Int32), ∃ (th' : Int32), RM n mv rw' nx' b' bt' kn' en' dn rf kk th' w' ∧ FR b b' w w' ∧ (∀ i, rw' i < 7) ∧ (∀ i, nx' i < 7) ∧ KX n mv kn' bt')) := by
            intro fuellp46_28
            induction fuellp46_28 with
            | zero => intros; omega
            | succ fuellp46_28 ihlp46_28 =>
              intro w29 rw_46 z3 c4 hR30 hF31 gr32 hv46_0 hf33
              obtain ⟨h19_34, h20_34, h21_34, h22_34, hb_34, hbl_34, hb3_34⟩ := hR30
              refine J_iload (pc := 46) dX8_withOrder_46 rfl ?_
              refine J_if_ltM (pc := 48) (tgt := 95) dX8_withOrder_48 (by decide) (by omega) (fun ht35 => ?_) (fun hf36 => ?_)
              · refine J_iload_n (pc := 95) dX8_withOrder_95 rfl rfl ?_
                exact J_iret (pc := 96) dX8_withOrder_96 rfl ⟨trivial, ⟨rw_46, nx9, b9, bt9, kn9, en9, nI (tW 0 0), ⟨h19_34, h20_34, h21_34, h22_34, hb_34, hbl_34, hb3_34⟩, hF31, gr32, hgnx9, (by first | assumption | exact KX_i (by assumption) (by omega) (by first | rfl | assumption))⟩⟩
              · rw [nI_m1 hf36]
                refine J_aload_n (pc := 51) dX8_withOrder_51 rfl rfl rfl ?_
                refine J_iload (pc := 52) dX8_withOrder_52 rfl ?_
                refine J_aload_n (pc := 54) dX8_withOrder_54 rfl rfl rfl ?_
                refine J_get (pc := 55) (k := 2) dX8_withOrder_55 kC9 (by decide) ff_X8_17 h19_34 rfl ?_
                refine J_callV0 (pc := 58) (M := mX8_withOrder) (as := [.int (nI (c4 - 1)), .ref 21]) dX8_withOrder_58 fw_X8_rowOf fl_X8_78 fm_X8_rowOf fe_X8_rowOf h19_34 (by decide) rfl rfl rfl (c_X8_rowOf hs (d := d - 1) (Nat.le_trans (by decide) hdm) (w := w29) (n := n) (mv := mv) (rw := rw_46) (nx := nx9) (b := b9) (bt := bt9) (kn := kn9) (en := en9) (dn := dn) (rf := rf) (kk := kk) (th := nI (tW 0 0)) ⟨h19_34, h20_34, h21_34, h22_34, hb_34, hbl_34, hb3_34⟩ hn1 hn2 gm gr32 hgnx9 (c4 - 1) (by first | assumption | omega) (kc := 0) (ks := 0)) hdp (st := []) (Nat.le_of_ble_eq_true rfl) rfl (kr_V fun w37 hw37 => ?_) kx_V
                obtain ⟨rw37, hR37, hFc37, hgrw37, hp37_0⟩ := hw37
                obtain ⟨h19_37, h20_37, h21_37, h22_37, hbb_37, hbl_37, hb3_37⟩ := hR37
                have hF37 := hF31.tr hFc37
                have hPr := Pn_row (by omega) hp37_0
                refine J_iload_n (pc := 61) dX8_withOrder_61 rfl rfl ?_
                refine J_aload_n (pc := 62) dX8_withOrder_62 rfl rfl rfl ?_
                refine J_aload_n (pc := 63) dX8_withOrder_63 rfl rfl rfl ?_
                refine J_get (pc := 64) (k := 2) dX8_withOrder_64 kC9 (by decide) ff_X8_17 h19_37 rfl ?_
                refine J_iconst (pc := 67) (v := nI 0) dX8_withOrder_67 (by decide) ?_
                refine J_callV0 (pc := 68) (M := mX8_withOrder) (as := [.ref 21, .int (nI 0)]) dX8_withOrder_68 fw_X8_orderOf fl_X8_172 fm_X8_orderOf fe_X8_orderOf h19_37 (by decide) rfl rfl rfl (c_X8_orderOf_at21 hs (d := d - 1) (Nat.le_trans (by decide) hdm) (w := w37) (n := n) (mv := mv) (rw := rw37) (nx := nx9) (b := b9) (bt := bt9) (kn := kn9) (en := en9) (dn := dn) (rf := rf) (kk := kk) (th := nI (tW 0 0)) ⟨h19_37, h20_37, h21_37, h22_37, hbb_37, hbl_37, hb3_37⟩ hn1 hn2 gm hgrw37 hgnx9 0 (by first | assumption | omega) (by exact Pn_z hPr) (kc := 0) (ks := 0)) hdp (st := [.int z3]) (Nat.le_of_ble_eq_true rfl) rfl (kr_P fun v38 hv38 => ?_) kx_I
                obtain ⟨k38, rfl, hk38⟩ := hv38
                refine J_iload_n (pc := 71) dX8_withOrder_71 rfl rfl ?_
                refine J_icmp_ne (pc := 72) (tgt := 79) dX8_withOrder_72 (by decide) (fun ht39 => ?_) (fun hf40 => ?_)
                · refine J_iconst (pc := 79) (v := nI 0) dX8_withOrder_79 (by decide) ?_
                  refine J_iadd (pc := 80) dX8_withOrder_80 (J_absI fun x41 => ?_)
                  refine J_istore_n (pc := 81) dX8_withOrder_81 rfl (by decide) rfl ?_
                  show J X mX8_withOrder d (kc - 13) (ks - 2054) 82 [some (.ref 19), some (.int (nI q1)), some (.int c), some (.int x41), some (.int (nI (c4 - 1)))] [] w37 _
                  refine J_aload_n (pc := 82) dX8_withOrder_82 rfl rfl rfl ?_
                  refine J_iload (pc := 83) dX8_withOrder_83 rfl ?_
                  refine J_iconst (pc := 85) (v := nI 1) dX8_withOrder_85 (by decide) ?_
                  refine J_iaddN (pc := 86) dX8_withOrder_86 ?_
                  refine J_callV0 (pc := 87) (M := mX8_withOrder) (as := [.int (nI ((c4 - 1) + 1))]) dX8_withOrder_87 fw_X8_from fl_X8_137 fm_X8_from fe_X8_from h19_37 (by decide) rfl rfl rfl (c_X8_from hs (d := d - 1) (Nat.le_trans (by decide) hdm) (w := w37) (n := n) (mv := mv) (rw := rw37) (nx := nx9) (b := b9) (bt := bt9) (kn := kn9) (en := en9) (dn := dn) (rf := rf) (kk := kk) (th := nI (tW 0 0)) ⟨h19_37, h20_37, h21_37, h22_37, hbb_37, hbl_37, hb3_37⟩ hn1 hn2 gm hgrw37 hgnx9 ((c4 - 1) + 1) (by first | assumption | omega) (kc := 0) (ks := 0)) hdp (st := []) (Nat.le_of_ble_eq_true rfl) rfl (kr_P fun v42 hv42 => ?_) kx_I
                  rcases hv42 with ⟨rfl, hk42_0⟩ | ⟨q42, rfl, hk42_0, hk42_1, hk42_2, hk42_3⟩
                  · refine J_istore (pc := 90) dX8_withOrder_90 (by decide) rfl ?_
                    show J X mX8_withOrder d (kc - 13) (ks - 2054) 92 [some (.ref 19), some (.int (nI q1)), some (.int c), some (.int x41), some (.int (-1))] [] w37 _
                    refine J_goto (pc := 92) (tgt := 46) dX8_withOrder_92 (by decide) ?_
                    exact J_sub (L' := [some (.ref 19), some (.int (nI q1)), some (.int c), some (.int x41), some (.int (nI 0 + Int32.ofInt (-1)))]) ⟨rfl, ⟨rfl, ⟨rfl, ⟨rfl, ⟨(congrArg (fun z => some (Value.int z)) (by decide : (-1 : Int32) = nI 0 + Int32.ofInt (-1))), trivial⟩⟩⟩⟩⟩ (ihlp46_28 w37 rw37 x41 0 ⟨h19_37, h20_37, h21_37, h22_37, hbb_37, hbl_37, hb3_37⟩ hF37 hgrw37 (by first | assumption | omega) (by exact mu_dec (by assumption) (by omega) (by omega) (by omega)))
                  · refine J_istore (pc := 90) dX8_withOrder_90 (by decide) rfl ?_
                    show J X mX8_withOrder d (kc - 13) (ks - 2054) 92 [some (.ref 19), some (.int (nI q1)), some (.int c), some (.int x41), some (.int (nI q42))] [] w37 _
                    refine J_goto (pc := 92) (tgt := 46) dX8_withOrder_92 (by decide) ?_
                    exact J_sub (L' := [some (.ref 19), some (.int (nI q1)), some (.int c), some (.int x41), some (.int (nI (q42 + 1) + Int32.ofInt (-1)))]) ⟨rfl, ⟨rfl, ⟨rfl, ⟨rfl, ⟨(congrArg (fun z => some (Value.int z)) (nI_n1 q42)), trivial⟩⟩⟩⟩⟩ (ihlp46_28 w37 rw37 x41 (q42 + 1) ⟨h19_37, h20_37, h21_37, h22_37, hbb_37, hbl_37, hb3_37⟩ hF37 hgrw37 (by first | assumption | omega) (by exact mu_dec (by assumption) (by omega) (by omega) (by omega)))
                · refine J_iconst (pc := 75) (v := nI 1) dX8_withOrder_75 (by decide) ?_
                  refine J_goto (pc := 76) (tgt := 80) dX8_withOrder_76 (by decide) ?_
                  refine J_iadd (pc := 80) dX8_withOrder_80 (J_absI fun x43 => ?_)
                  refine J_istore_n (pc := 81) dX8_withOrder_81 rfl (by decide) rfl ?_
                  show J X mX8_withOrder d (kc - 13) (ks - 2054) 82 [some (.ref 19), some (.int (nI q1)), some (.int c), some (.int x43), some (.int (nI (c4 - 1)))] [] w37 _
                  refine J_aload_n (pc := 82) dX8_withOrder_82 rfl rfl rfl ?_
                  refine J_iload (pc := 83) dX8_withOrder_83 rfl ?_
                  refine J_iconst (pc := 85) (v := nI 1) dX8_withOrder_85 (by decide) ?_
                  refine J_iaddN (pc := 86) dX8_withOrder_86 ?_
                  refine J_callV0 (pc := 87) (M := mX8_withOrder) (as := [.int (nI ((c4 - 1) + 1))]) dX8_withOrder_87 fw_X8_from fl_X8_137 fm_X8_from fe_X8_from h19_37 (by decide) rfl rfl rfl (c_X8_from hs (d := d - 1) (Nat.le_trans (by decide) hdm) (w := w37) (n := n) (mv := mv) (rw := rw37) (nx := nx9) (b := b9) (bt := bt9) (kn := kn9) (en := en9) (dn := dn) (rf := rf) (kk := kk) (th := nI (tW 0 0)) ⟨h19_37, h20_37, h21_37, h22_37, hbb_37, hbl_37, hb3_37⟩ hn1 hn2 gm hgrw37 hgnx9 ((c4 - 1) + 1) (by first | assumption | omega) (kc := 0) (ks := 0)) hdp (st := []) (Nat.le_of_ble_eq_true rfl) rfl (kr_P fun v44 hv44 => ?_) kx_I
                  rcases hv44 with ⟨rfl, hk44_0⟩ | ⟨q44, rfl, hk44_0, hk44_1, hk44_2, hk44_3⟩
                  · refine J_istore (pc := 90) dX8_withOrder_90 (by decide) rfl ?_
                    show J X mX8_withOrder d (kc - 13) (ks - 2054) 92 [some (.ref 19), some (.int (nI q1)), some (.int c), some (.int x43), some (.int (-1))] [] w37 _
                    refine J_goto (pc := 92) (tgt := 46) dX8_withOrder_92 (by decide) ?_
                    exact J_sub (L' := [some (.ref 19), some (.int (nI q1)), some (.int c), some (.int x43), some (.int (nI 0 + Int32.ofInt (-1)))]) ⟨rfl, ⟨rfl, ⟨rfl, ⟨rfl, ⟨(congrArg (fun z => some (Value.int z)) (by decide : (-1 : Int32) = nI 0 + Int32.ofInt (-1))), trivial⟩⟩⟩⟩⟩ (ihlp46_28 w37 rw37 x43 0 ⟨h19_37, h20_37, h21_37, h22_37, hbb_37, hbl_37, hb3_37⟩ hF37 hgrw37 (by first | assumption | omega) (by exact mu_dec (by assumption) (by omega) (by omega) (by omega)))
                  · refine J_istore (pc := 90) dX8_withOrder_90 (by decide) rfl ?_
                    show J X mX8_withOrder d (kc - 13) (ks - 2054) 92 [some (.ref 19), some (.int (nI q1)), some (.int c), some (.int x43), some (.int (nI q44))] [] w37 _
                    refine J_goto (pc := 92) (tgt := 46) dX8_withOrder_92 (by decide) ?_
                    exact J_sub (L' := [some (.ref 19), some (.int (nI q1)), some (.int c), some (.int x43), some (.int (nI (q44 + 1) + Int32.ofInt (-1)))]) ⟨rfl, ⟨rfl, ⟨rfl, ⟨rfl, ⟨(congrArg (fun z => some (Value.int z)) (nI_n1 q44)), trivial⟩⟩⟩⟩⟩ (ihlp46_28 w37 rw37 x43 (q44 + 1) ⟨h19_37, h20_37, h21_37, h22_37, hbb_37, hbl_37, hb3_37⟩ hF37 hgrw37 (by first | assumption | omega) (by exact mu_dec (by assumption) (by omega) (by omega) (by omega)))
          exact J_sub (L' := [some (.ref 19), some (.int (nI q1)), some (.int c), some (.int (nI 0)), some (.int (nI (q10 + 1) + Int32.ofInt (-1)))]) ⟨rfl, ⟨rfl, ⟨rfl, ⟨rfl, ⟨(congrArg (fun z => some (Value.int z)) (nI_n1 q10)), trivial⟩⟩⟩⟩⟩ (lp46_28 _ w9 rw9 (nI 0) (q10 + 1) ⟨h19_9, h20_9, h21_9, h22_9, hbb_9, hbl_9, hb3_9⟩ hF9 hgrw9 (by first | assumption | omega) (Nat.lt_succ_self _))
      · refine J_iconst (pc := 19) (v := nI 1) dX8_withOrder_19 (by decide) ?_
        refine J_goto (pc := 20) (tgt := 24) dX8_withOrder_20 (by decide) ?_
        refine J_callV0 (pc := 24) (M := mX8_withOrder) (as := [.int (nI 1)]) dX8_withOrder_24 fw_X8_isThrown_ fl_X8_105 fm_X8_isThrown_ fe_X8_isThrown_ h19 (by decide) rfl rfl rfl (c_X8_isThrown_ hs (d := d - 1) (Nat.le_trans (by decide) hdm) (w := w) (n := n) (mv := mv) (rw := rw) (nx := nx) (b := b) (bt := bt) (kn := kn) (en := en) (dn := dn) (rf := rf) (kk := kk) (th := th) ⟨h19, h20, h21, h22, hbb, hbl, hb3⟩ hn1 hn2 gm gr gx 1 (by first | assumption | omega) (kc := 0) (ks := 0)) hdp (st := []) (Nat.le_of_ble_eq_true rfl) rfl (kr_I fun v45 w45 hv45 hw45 => ?_) kx_I
        obtain ⟨hR45, hFc45⟩ := hw45
        obtain ⟨h19_45, h20_45, h21_45, h22_45, hbb_45, hbl_45, hb3_45⟩ := hR45
        have hF45 := hF.tr hFc45
        subst hv45
        show J X mX8_withOrder d kc ks 27 [some (.ref 19), some (.int (nI q1)), some (.int c), none, none] [.int (nI 1)] w45 _
        refine J_if_eqN (pc := 27) (tgt := 32) dX8_withOrder_27 (by decide) (by decide) (fun h => absurd h (by decide)) (fun _ => ?_)
        refine J_iconst (pc := 30) (v := nI 0) dX8_withOrder_30 (by decide) ?_
        exact J_iret (pc := 31) dX8_withOrder_31 rfl ⟨trivial, ⟨rw, nx, b, bt, kn, en, nI (tW 1 0), ⟨h19_45, h20_45, h21_45, h22_45, hbb_45, hbl_45, hb3_45⟩, hF45, gr, gx, (by first | assumption | exact KX_i (by assumption) (by omega) (by first | rfl | assumption))⟩⟩
set_option maxRecDepth 100000 in
set_option maxHeartbeats 40000000 in
theorem c_X8_even {X : jX} (hs : X.1.stackTraces = false) {d : Nat} (hd : 5 ≤ d) {n : Nat} {mv rw nx : Nat → Nat} {b : Nat} {bt : List Int32} {kn en dn rf kk th : Int32} {w : List jC} (hR : RM n mv rw nx b bt kn en dn rf kk th w) (hn1 : 2 ≤ n) (hn2 : n ≤ 7) (gm : ∀ i, mv i < 7) (gr : ∀ i, rw i < 7) (gx : ∀ i, nx i < 7) (s : Int32) (hy0 : PM n mv) (hy1 : KX n mv kn bt) {kc ks : Nat} (hkc : 13 ≤ kc) (hks : 2054 ≤ ks) : jMet X mX8_even d kc ks [.ref 19, .int s] w (pI (fun _ => True) (fun w' => ∃ (rw' : Nat → Nat), ∃ (nx' : Nat → Nat), ∃ (b' : Nat), ∃ (bt' : List Int32), ∃ (kn' : Int32), ∃ (en' : Int32), ∃ (th' : Int32), RM n mv rw' nx' b' bt' kn' en' dn rf kk th' w' ∧ FR b b' w w' ∧ (∀ i, rw' i < 7) ∧ (∀ i, nx' i < 7) ∧ KX n mv kn' bt')) := by
  refine jMet_of hs (by decide +kernel) (Nat.le_of_ble_eq_true rfl) (L := [some (.ref 19), some (.int s)]) rfl ?_
  have hdm : 4 ≤ d - 1 := by omega
  have hdp : d - 1 + 1 ≤ d := by omega
  have hfc := fc_7 hn2
  have hfp := fc_pos n
  obtain ⟨h19, h20, h21, h22, hbb, hbl, hb3⟩ := hR
  have hF : FR b b w w := FR.rf
  refine J_aload_n (pc := 0) dX8_even_0 rfl rfl rfl ?_
  refine J_iload_n (pc := 1) dX8_even_1 rfl rfl ?_
  refine J_callS0 (pc := 2) (M := mX8_even) (as := [.int s]) dX8_even_2 fw_X8_isSet fl_X8_134 fs_X8_isSet rfl (c_X8_isSet hs (d := d - 1) (Nat.le_trans (by decide) hdm) (w := w) s (kc := 0) (ks := 0)) hdp (st := [.ref 19]) (Nat.le_of_ble_eq_true rfl) rfl (kr_P fun v1 hv1 => ?_) kx_I
  rcases hv1 with ⟨rfl, hk1_0⟩ | ⟨q1, rfl, hk1_0, rfl⟩
  · refine J_if_neN (pc := 5) (tgt := 12) dX8_even_5 (by decide) (by decide) (fun h => absurd h (by decide)) (fun _ => ?_)
    refine J_iconst (pc := 8) (v := nI 1) dX8_even_8 (by decide) ?_
    refine J_goto (pc := 9) (tgt := 13) dX8_even_9 (by decide) ?_
    refine J_callV0 (pc := 13) (M := mX8_even) (as := [.int (nI 1)]) dX8_even_13 fw_X8_isThrown_ fl_X8_105 fm_X8_isThrown_ fe_X8_isThrown_ h19 (by decide) rfl rfl rfl (c_X8_isThrown_ hs (d := d - 1) (Nat.le_trans (by decide) hdm) (w := w) (n := n) (mv := mv) (rw := rw) (nx := nx) (b := b) (bt := bt) (kn := kn) (en := en) (dn := dn) (rf := rf) (kk := kk) (th := th) ⟨h19, h20, h21, h22, hbb, hbl, hb3⟩ hn1 hn2 gm gr gx 1 (by first | assumption | omega) (kc := 0) (ks := 0)) hdp (st := []) (Nat.le_of_ble_eq_true rfl) rfl (kr_I fun v2 w2 hv2 hw2 => ?_) kx_I
    obtain ⟨hR2, hFc2⟩ := hw2
    obtain ⟨h19_2, h20_2, h21_2, h22_2, hbb_2, hbl_2, hb3_2⟩ := hR2
    have hF2 := hF.tr hFc2
    subst hv2
    show J X mX8_even d kc ks 16 [some (.ref 19), some (.int s)] [.int (nI 1)] w2 _
    refine J_if_eqN (pc := 16) (tgt := 23) dX8_even_16 (by decide) (by decide) (fun h => absurd h (by decide)) (fun _ => ?_)
    refine J_iconst (pc := 19) (v := nI 0) dX8_even_19 (by decide) ?_
    refine J_goto (pc := 20) (tgt := 28) dX8_even_20 (by decide) ?_
    exact J_iret (pc := 28) dX8_even_28 rfl ⟨trivial, ⟨rw, nx, b, bt, kn, en, nI (tW 1 0), ⟨h19_2, h20_2, h21_2, h22_2, hbb_2, hbl_2, hb3_2⟩, hF2, gr, gx, (by first | assumption | exact KX_i (by assumption) (by omega) (by first | rfl | assumption))⟩⟩
  · refine J_if_neN (pc := 5) (tgt := 12) dX8_even_5 (by decide) (by decide) (fun _ => ?_) (fun h => absurd h (by decide))
    refine J_iconst (pc := 12) (v := nI 0) dX8_even_12 (by decide) ?_
    refine J_callV0 (pc := 13) (M := mX8_even) (as := [.int (nI 0)]) dX8_even_13 fw_X8_isThrown_ fl_X8_105 fm_X8_isThrown_ fe_X8_isThrown_ h19 (by decide) rfl rfl rfl (c_X8_isThrown_ hs (d := d - 1) (Nat.le_trans (by decide) hdm) (w := w) (n := n) (mv := mv) (rw := rw) (nx := nx) (b := b) (bt := bt) (kn := kn) (en := en) (dn := dn) (rf := rf) (kk := kk) (th := th) ⟨h19, h20, h21, h22, hbb, hbl, hb3⟩ hn1 hn2 gm gr gx 0 (by first | assumption | omega) (kc := 0) (ks := 0)) hdp (st := []) (Nat.le_of_ble_eq_true rfl) rfl (kr_I fun v3 w3 hv3 hw3 => ?_) kx_I
    obtain ⟨hR3, hFc3⟩ := hw3
    obtain ⟨h19_3, h20_3, h21_3, h22_3, hbb_3, hbl_3, hb3_3⟩ := hR3
    have hF3 := hF.tr hFc3
    subst hv3
    show J X mX8_even d kc ks 16 [some (.ref 19), some (.int (nI q1))] [.int (nI 0)] w3 _
    refine J_if_eqN (pc := 16) (tgt := 23) dX8_even_16 (by decide) (by decide) (fun _ => ?_) (fun h => absurd h (by decide))
    refine J_aload_n (pc := 23) dX8_even_23 rfl rfl rfl ?_
    refine J_iload_n (pc := 24) dX8_even_24 rfl rfl ?_
    refine J_callV (pc := 25) (M := mX8_even) (as := [.int (nI q1)]) dX8_even_25 fw_X8_evenNow fl_X8_194 fm_X8_evenNow fe_X8_evenNow h19_3 (by decide) rfl rfl rfl (c_X8_evenNow hs (d := d - 1) (Nat.le_trans (by decide) hdm) (w := w3) (n := n) (mv := mv) (rw := rw) (nx := nx) (b := b) (bt := bt) (kn := kn) (en := en) (dn := dn) (rf := rf) (kk := kk) (th := nI (tW 0 0)) ⟨h19_3, h20_3, h21_3, h22_3, hbb_3, hbl_3, hb3_3⟩ hn1 hn2 gm gr gx q1 (by first | assumption | omega) (by first | assumption | omega) (by first | assumption | omega) (kc := 13) (ks := 2054) (Nat.le_refl _) (Nat.le_refl _)) hdp (by omega) (by omega) (st := []) (Nat.le_of_ble_eq_true rfl) rfl (kr_I fun v4 w4 hv4 hw4 => ?_) kx_I
    obtain ⟨rw4, nx4, b4, bt4, kn4, en4, hR4, hFc4, hgrw4, hgnx4, hp4_0, hp4_1⟩ := hw4
    obtain ⟨h19_4, h20_4, h21_4, h22_4, hbb_4, hbl_4, hb3_4⟩ := hR4
    have qd4 := hFc4.2.1
    have hF4 := hF3.tr hFc4
    exact J_iret (pc := 28) dX8_even_28 rfl ⟨trivial, ⟨rw4, nx4, b4, bt4, kn4, en4, nI (tW 0 0), ⟨h19_4, h20_4, h21_4, h22_4, hbb_4, hbl_4, hb3_4⟩, hF4, hgrw4, hgnx4, (by first | assumption | exact KX_i (by assumption) (by omega) (by first | rfl | assumption))⟩⟩
end
section
/-! contracts of the reference: rspec4 -/
set_option maxRecDepth 100000 in
set_option maxHeartbeats 40000000 in
theorem c_X8_coloured {X : jX} (hs : X.1.stackTraces = false) {d : Nat} (hd : 1 ≤ d) {n : Nat} {mv rw nx : Nat → Nat} {b : Nat} {bt : List Int32} {kn en dn rf kk th : Int32} {w : List jC} (hR : RM n mv rw nx b bt kn en dn rf kk th w) (hn1 : 2 ≤ n) (hn2 : n ≤ 7) (gm : ∀ i, mv i < 7) (gr : ∀ i, rw i < 7) (gx : ∀ i, nx i < 7) (a : Nat) (c : Nat) (e : Nat) (hy0 : c < 6) (hy1 : 1 ≤ e) (hy2 : e ≤ 3) (hy3 : PM n mv) (hy4 : a < 3000) {kc ks : Nat} : jMet X mX8_coloured d kc ks [.ref 19, .int (nI a), .int (nI c), .int (nI e)] w (pI (fun v => ∃ k : Nat, v = nI k ∧ k < e ^ n) (fun w' => ∃ (nx' : Nat → Nat), RM n mv rw nx' b bt kn en dn rf kk th w' ∧ FR b b w w' ∧ (∀ i, nx' i < 7))) := by
  refine jMet_of hs (by decide +kernel) (Nat.le_of_ble_eq_true rfl) (L := [some (.ref 19), some (.int (nI a)), some (.int (nI c)), some (.int (nI e)), none, none, none]) rfl ?_
  have hdm : 0 ≤ d - 1 := by omega
  have hdp : d - 1 + 1 ≤ d := by omega
  have hfc := fc_7 hn2
  have hfp := fc_pos n
  obtain ⟨h19, h20, h21, h22, hbb, hbl, hb3⟩ := hR
  have hF : FR b b w w := FR.rf
  have hpw := pw_le (e := e) (n := n) hy2 hn2
  refine J_iload_n (pc := 0) dX8_coloured_0 rfl rfl ?_
  refine J_istore (pc := 1) dX8_coloured_1 (by decide) rfl ?_
  show J X mX8_coloured d kc ks 3 [some (.ref 19), some (.int (nI a)), some (.int (nI c)), some (.int (nI e)), some (.int (nI a)), none, none] [] w _
  refine J_iconst (pc := 3) (v := nI 0) dX8_coloured_3 (by decide) ?_
  refine J_istore (pc := 4) dX8_coloured_4 (by decide) rfl ?_
  show J X mX8_coloured d kc ks 6 [some (.ref 19), some (.int (nI a)), some (.int (nI c)), some (.int (nI e)), some (.int (nI a)), some (.int (nI 0)), none] [] w _
  have lp6_1 : ∀ (fuel : Nat) (w2 : List jC) (nx_6 : Nat → Nat) (y4 : Nat) (c5 : Nat), (RM n mv rw nx_6 b bt kn en dn rf kk th w2) → (FR b b w w2) → (∀ i, nx_6 i < 7) → (∀ p, p < c5 → nx_6 (mv (c * 7 + p)) < e) → (c5 ≤ n) → (y4 < 3000) → (n - c5 < fuel) → J X mX8_coloured d kc ks 6 [some (.ref 19), some (.int (nI a)), some (.int (nI c)), some (.int (nI e)), some (.int (nI y4)), some (.int (nI c5)), none] [] w2 (pI (fun v => ∃ k : Nat, v = nI k ∧ k < e ^ n) (fun w' => ∃ (nx' : Nat → Nat), RM n mv rw nx' b bt kn en dn rf kk th w' ∧ FR b b w w' ∧ (∀ i, nx' i < 7))) := by
    intro fuellp6_1
    induction fuellp6_1 with
    | zero => intros; omega
    | succ fuellp6_1 ihlp6_1 =>
      intro w2 nx_6 y4 c5 hR3 hF4 gx5 hv6_0 hv6_1 hv6_2 hf6
      obtain ⟨h19_7, h20_7, h21_7, h22_7, hb_7, hbl_7, hb3_7⟩ := hR3
      refine J_iload (pc := 6) dX8_coloured_6 rfl ?_
      refine J_aload_n (pc := 8) dX8_coloured_8 rfl rfl rfl ?_
      refine J_get (pc := 9) (k := 0) dX8_coloured_9 kC9 (by decide) ff_X8_7 h19_7 rfl ?_
      refine J_icmp_geN (pc := 12) (tgt := 43) dX8_coloured_12 (by decide) (by omega) (by omega) (fun ht8 => ?_) (fun hf9 => ?_)
      · have hall := col_all (e := e) (hy3 c hy0) (g := nx_6) (fun p hp => hv6_0 p (by omega))
        refine J_iconst (pc := 43) (v := nI 0) dX8_coloured_43 (by decide) ?_
        refine J_istore (pc := 44) dX8_coloured_44 (by decide) rfl ?_
        show J X mX8_coloured d kc ks 46 [some (.ref 19), some (.int (nI a)), some (.int (nI c)), some (.int (nI e)), some (.int (nI y4)), some (.int (nI 0)), none] [] w2 _
        refine J_aload_n (pc := 46) dX8_coloured_46 rfl rfl rfl ?_
        refine J_get (pc := 47) (k := 0) dX8_coloured_47 kC9 (by decide) ff_X8_7 h19_7 rfl ?_
        refine J_iconst (pc := 50) (v := nI 1) dX8_coloured_50 (by decide) ?_
        refine J_isubM (pc := 51) dX8_coloured_51 ?_
        refine J_istore (pc := 52) dX8_coloured_52 (by decide) rfl ?_
        show J X mX8_coloured d kc ks 54 [some (.ref 19), some (.int (nI a)), some (.int (nI c)), some (.int (nI e)), some (.int (nI y4)), some (.int (nI 0)), some (.int (nI n + Int32.ofInt (-1)))] [] w2 _
        have lp54_10 : ∀ (fuel : Nat) (y5 : Nat) (c6 : Nat), (y5 < e ^ (n - c6)) → (c6 ≤ n) → (y5 < 2200) → (c6 < fuel) → J X mX8_coloured d kc ks 54 [some (.ref 19), some (.int (nI a)), some (.int (nI c)), some (.int (nI e)), some (.int (nI y4)), some (.int (nI y5)), some (.int (nI c6 + Int32.ofInt (-1)))] [] w2 (pI (fun v => ∃ k : Nat, v = nI k ∧ k < e ^ n) (fun w' => ∃ (nx' : Nat → Nat), RM n mv rw nx' b bt kn en dn rf kk th w' ∧ FR b b w w' ∧ (∀ i, nx' i < 7))) := by
          intro fuellp54_10
          induction fuellp54_10 with
          | zero => intros; omega
          | succ fuellp54_10 ihlp54_10 =>
            intro y5 c6 hv54_0 hv54_1 hv54_2 hf11
            refine J_iload (pc := 54) dX8_coloured_54 rfl ?_
            refine J_if_ltM (pc := 56) (tgt := 79) dX8_coloured_56 (by decide) (by omega) (fun ht12 => ?_) (fun hf13 => ?_)
            · refine J_iload (pc := 79) dX8_coloured_79 rfl ?_
              exact J_iret (pc := 81) dX8_coloured_81 rfl ⟨⟨y5, rfl, by rw [show n = n - c6 by omega]; exact hv54_0⟩, ⟨nx_6, ⟨h19_7, h20_7, h21_7, h22_7, hb_7, hbl_7, hb3_7⟩, hF4, gx5⟩⟩
            · rw [nI_m1 hf13]
              refine J_iload (pc := 59) dX8_coloured_59 rfl ?_
              refine J_iload_n (pc := 61) dX8_coloured_61 rfl rfl ?_
              refine J_imulN (pc := 62) dX8_coloured_62 ?_
              refine J_aload_n (pc := 63) dX8_coloured_63 rfl rfl rfl ?_
              refine J_get (pc := 64) (k := 3) dX8_coloured_64 kC9 (by decide) ff_X8_20 h19_7 rfl ?_
              refine J_iload (pc := 67) dX8_coloured_67 rfl ?_
              refine J_ialdF (pc := 69) dX8_coloured_69 h22_7 (by omega) (by decide) ?_
              have hq14 := gx5 (c6 - 1)
              refine J_iaddN (pc := 70) dX8_coloured_70 ?_
              have hnx := hall (c6 - 1) (by omega)
              have hcs := pw_step (n := n) (c := c6) hv54_0 hnx (by omega) (by omega)
              refine J_istore (pc := 71) dX8_coloured_71 (by decide) rfl ?_
              show J X mX8_coloured d kc ks 73 [some (.ref 19), some (.int (nI a)), some (.int (nI c)), some (.int (nI e)), some (.int (nI y4)), some (.int (nI ((y5 * e) + (nx_6 (c6 - 1))))), some (.int (nI (c6 - 1)))] [] w2 _
              refine J_iinc (pc := 73) dX8_coloured_73 rfl rfl (by decide) rfl ?_
              show J X mX8_coloured d kc ks 76 [some (.ref 19), some (.int (nI a)), some (.int (nI c)), some (.int (nI e)), some (.int (nI y4)), some (.int (nI ((y5 * e) + (nx_6 (c6 - 1))))), some (.int (nI (c6 - 1) + Int32.ofInt (-1)))] [] w2 _
              refine J_goto (pc := 76) (tgt := 54) dX8_coloured_76 (by decide) ?_
              exact J_sub (L' := [some (.ref 19), some (.int (nI a)), some (.int (nI c)), some (.int (nI e)), some (.int (nI y4)), some (.int (nI ((y5 * e) + (nx_6 (c6 - 1))))), some (.int (nI (c6 - 1) + Int32.ofInt (-1)))]) ⟨rfl, ⟨rfl, ⟨rfl, ⟨rfl, ⟨rfl, ⟨rfl, ⟨rfl, trivial⟩⟩⟩⟩⟩⟩⟩ (ihlp54_10 ((y5 * e) + (nx_6 (c6 - 1))) (c6 - 1) (by rw [show n - (c6 - 1) = n - c6 + 1 by omega]; exact hcs) (by first | assumption | omega) (by exact Nat.lt_of_lt_of_le hcs (Nat.le_trans (pw_le2 hy2 (by omega)) (by decide))) (by omega))
        exact J_sub (L' := [some (.ref 19), some (.int (nI a)), some (.int (nI c)), some (.int (nI e)), some (.int (nI y4)), some (.int (nI 0)), some (.int (nI n + Int32.ofInt (-1)))]) ⟨rfl, ⟨rfl, ⟨rfl, ⟨rfl, ⟨rfl, ⟨rfl, ⟨rfl, trivial⟩⟩⟩⟩⟩⟩⟩ (lp54_10 _ 0 n (by rw [Nat.sub_self]; exact Nat.one_pos) (by first | assumption | omega) (by omega) (Nat.lt_succ_self _))
      · refine J_aload_n (pc := 15) dX8_coloured_15 rfl rfl rfl ?_
        refine J_get (pc := 16) (k := 3) dX8_coloured_16 kC9 (by decide) ff_X8_20 h19_7 rfl ?_
        refine J_aload_n (pc := 19) dX8_coloured_19 rfl rfl rfl ?_
        refine J_iload_n (pc := 20) dX8_coloured_20 rfl rfl ?_
        refine J_iload (pc := 21) dX8_coloured_21 rfl ?_
        refine J_callV0 (pc := 23) (M := mX8_coloured) (as := [.int (nI c), .int (nI c5)]) dX8_coloured_23 fw_X8_at fl_X8_82 fm_X8_at fe_X8_at h19_7 (by decide) rfl rfl rfl (c_X8_at hs (d := d - 1) (Nat.le_trans (by decide) hdm) (w := w2) (n := n) (mv := mv) (rw := rw) (nx := nx_6) (b := b) (bt := bt) (kn := kn) (en := en) (dn := dn) (rf := rf) (kk := kk) (th := th) ⟨h19_7, h20_7, h21_7, h22_7, hb_7, hbl_7, hb3_7⟩ hn1 hn2 gm gr gx5 c c5 (by first | assumption | omega) (by first | assumption | omega) (kc := 0) (ks := 0)) hdp (st := [.ref 22]) (Nat.le_of_ble_eq_true rfl) rfl (kr_P fun v15 hv15 => ?_) kx_I
        subst hv15
        have hq16 := gm (c * 7 + c5)
        refine J_iload (pc := 26) dX8_coloured_26 rfl ?_
        refine J_iload_n (pc := 28) dX8_coloured_28 rfl rfl ?_
        have hm17 := Nat.mod_lt y4 (show 0 < e by omega)
        have hm18 := Nat.div_le_self y4 e
        refine J_iremN (pc := 29) dX8_coloured_29 (by omega) (by omega) (by omega) ?_
        refine J_iastF (pc := 30) dX8_coloured_30 h22_7 (by omega) (by decide) (fun w19 hln19 hc19 hne19 => ?_)
        have hg19 : ∀ i, (up nx_6 (mv (c * 7 + c5)) (y4 % e)) i < 7 := up_b gx5 (by omega)
        have h19_19 := (hne19 19 (by decide)).trans h19_7
        have h20_19 := (hne19 20 (by decide)).trans h20_7
        have h21_19 := (hne19 21 (by decide)).trans h21_7
        have hb_19 := (hne19 _ (Nat.ne_of_gt (Nat.lt_of_lt_of_le (by decide) hb3_7))).trans hb_7
        have hF19 := hF4.st hln19 hne19 (Or.inl (by decide))
        refine J_iload (pc := 31) dX8_coloured_31 rfl ?_
        refine J_iload_n (pc := 33) dX8_coloured_33 rfl rfl ?_
        have hm20 := Nat.mod_lt y4 (show 0 < e by omega)
        have hm21 := Nat.div_le_self y4 e
        refine J_idivN (pc := 34) dX8_coloured_34 (by omega) (by omega) (by omega) ?_
        refine J_istore (pc := 35) dX8_coloured_35 (by decide) rfl ?_
        show J X mX8_coloured d kc ks 37 [some (.ref 19), some (.int (nI a)), some (.int (nI c)), some (.int (nI e)), some (.int (nI (y4 / e))), some (.int (nI c5)), none] [] w19 _
        refine J_iincN (pc := 37) (b := 1) dX8_coloured_37 rfl (by decide) (by decide) rfl ?_
        show J X mX8_coloured d kc ks 40 [some (.ref 19), some (.int (nI a)), some (.int (nI c)), some (.int (nI e)), some (.int (nI (y4 / e))), some (.int (nI (c5 + 1))), none] [] w19 _
        refine J_goto (pc := 40) (tgt := 6) dX8_coloured_40 (by decide) ?_
        exact J_sub (L' := [some (.ref 19), some (.int (nI a)), some (.int (nI c)), some (.int (nI e)), some (.int (nI (y4 / e))), some (.int (nI (c5 + 1))), none]) ⟨rfl, ⟨rfl, ⟨rfl, ⟨rfl, ⟨rfl, ⟨rfl, trivial⟩⟩⟩⟩⟩⟩ (ihlp6_1 w19 (up nx_6 (mv (c * 7 + c5)) (y4 % e)) (y4 / e) (c5 + 1) ⟨h19_19, h20_19, h21_19, hc19, hb_19, hbl_7, hb3_7⟩ hF19 hg19 (by intro p hp; by_cases q : p = c5; (subst q; rw [up_s]; omega); (rw [up_n (fun q2 => q ((hy3 c hy0).2 p c5 (by omega) (by omega) q2))]; exact hv6_0 p (by omega))) (by first | assumption | omega) (by first | assumption | omega) (by omega))
  exact J_sub (L' := [some (.ref 19), some (.int (nI a)), some (.int (nI c)), some (.int (nI e)), some (.int (nI a)), some (.int (nI 0)), none]) ⟨rfl, ⟨rfl, ⟨rfl, ⟨rfl, ⟨rfl, ⟨rfl, trivial⟩⟩⟩⟩⟩⟩ (lp6_1 _ w nx a 0 ⟨h19, h20, h21, h22, hbb, hbl, hb3⟩ hF gx (by intro p hp; omega) (by first | assumption | omega) (by first | assumption | omega) (Nat.lt_succ_self _))
end
section
/-! contracts of the reference: rspec4 -/
set_option maxRecDepth 100000 in
set_option maxHeartbeats 40000000 in
theorem c_X8_oneByOne {X : jX} (hs : X.1.stackTraces = false) {d : Nat} (hd : 2 ≤ d) {n : Nat} {mv rw nx : Nat → Nat} {b : Nat} {bt : List Int32} {kn en dn rf kk th : Int32} {w : List jC} (hR : RM n mv rw nx b bt kn en dn rf kk th w) (hn1 : 2 ≤ n) (hn2 : n ≤ 7) (gm : ∀ i, mv i < 7) (gr : ∀ i, rw i < 7) (gx : ∀ i, nx i < 7) (s : Nat) (e : Nat) (hy0 : s < 64) (hy1 : 1 ≤ e) (hy2 : e ≤ 3) (hy3 : PM n mv) {kc ks : Nat} (hkc : 2 ≤ kc) (hks : 4374 ≤ ks) : jMet X mX8_oneByOne d kc ks [.ref 19, .int (nI s), .int (nI e)] w (pI (fun _ => True) (fun w' => ∃ (nx' : Nat → Nat), RM n mv rw nx' b bt kn en dn rf kk th w' ∧ FR b b w w' ∧ (∀ i, nx' i < 7))) := by
  refine jMet_of hs (by decide +kernel) (Nat.le_of_ble_eq_true rfl) (L := [some (.ref 19), some (.int (nI s)), some (.int (nI e)), none, none, none, none, none, none, none, none, none]) rfl ?_
  have hdm : 1 ≤ d - 1 := by omega
  have hdp : d - 1 + 1 ≤ d := by omega
  have hfc := fc_7 hn2
  have hfp := fc_pos n
  obtain ⟨h19, h20, h21, h22, hbb, hbl, hb3⟩ := hR
  have hF : FR b b w w := FR.rf
  have hpw := pw_le (e := e) (n := n) hy2 hn2
  refine J_iconst (pc := 0) (v := nI 1) dX8_oneByOne_0 (by decide) ?_
  refine J_istore_n (pc := 1) dX8_oneByOne_1 rfl (by decide) rfl ?_
  show J X mX8_oneByOne d kc ks 2 [some (.ref 19), some (.int (nI s)), some (.int (nI e)), some (.int (nI 1)), none, none, none, none, none, none, none, none] [] w _
  refine J_iconst (pc := 2) (v := nI 0) dX8_oneByOne_2 (by decide) ?_
  refine J_istore (pc := 3) dX8_oneByOne_3 (by decide) rfl ?_
  show J X mX8_oneByOne d kc ks 5 [some (.ref 19), some (.int (nI s)), some (.int (nI e)), some (.int (nI 1)), some (.int (nI 0)), none, none, none, none, none, none, none] [] w _
  have lp5_1 : ∀ (fuel : Nat) (y3 : Nat) (c4 : Nat), (y3 = e ^ c4) → (c4 ≤ n) → (n - c4 < fuel) → J X mX8_oneByOne d kc ks 5 [some (.ref 19), some (.int (nI s)), some (.int (nI e)), some (.int (nI y3)), some (.int (nI c4)), none, none, none, none, none, none, none] [] w (pI (fun _ => True) (fun w' => ∃ (nx' : Nat → Nat), RM n mv rw nx' b bt kn en dn rf kk th w' ∧ FR b b w w' ∧ (∀ i, nx' i < 7))) := by
    intro fuellp5_1
    induction fuellp5_1 with
    | zero => intros; omega
    | succ fuellp5_1 ihlp5_1 =>
      intro y3 c4 hv5_0 hv5_1 hf2
      refine J_iload (pc := 5) dX8_oneByOne_5 rfl ?_
      refine J_aload_n (pc := 7) dX8_oneByOne_7 rfl rfl rfl ?_
      refine J_get (pc := 8) (k := 0) dX8_oneByOne_8 kC9 (by decide) ff_X8_7 h19 rfl ?_
      refine J_icmp_geN (pc := 11) (tgt := 24) dX8_oneByOne_11 (by decide) (by omega) (by omega) (fun ht3 => ?_) (fun hf4 => ?_)
      · have hy3e : y3 = e ^ n := by rw [hv5_0, show c4 = n by omega]
        have hy31 : 1 ≤ y3 := by rw [hy3e]; exact Nat.pow_pos hy1
        refine J_iload_n (pc := 24) dX8_oneByOne_24 rfl rfl ?_
        refine J_newW (pc := 25) (M := mX8_oneByOne) (N := y3) dX8_oneByOne_25 fa_int rfl (by omega) (by omega) (by omega) (fun a25 w5 ha5 hln5 hc5 hne5 => ?_)
        have q195 := gl h19
        have q205 := gl h20
        have q215 := gl h21
        have q225 := gl h22
        have qb5 := gl hbb
        have qF5 := hF.1
        have h19_5 := (hne5 19 (by omega)).trans h19
        have h20_5 := (hne5 20 (by omega)).trans h20
        have h21_5 := (hne5 21 (by omega)).trans h21
        have h22_5 := (hne5 22 (by omega)).trans h22
        have hb_5 := (hne5 _ (by omega)).trans hbb
        have hF5 := hF.pu ha5 hln5 hne5
        rw [aF_0] at hc5
        refine J_astore (pc := 27) dX8_oneByOne_27 (by decide) rfl rfl ?_
        show J X mX8_oneByOne d (kc - 1) (ks - y3) 29 [some (.ref 19), some (.int (nI s)), some (.int (nI e)), some (.int (nI y3)), some (.ref a25), none, none, none, none, none, none, none] [] w5 _
        refine J_iconst (pc := 29) (v := nI 0) dX8_oneByOne_29 (by decide) ?_
        refine J_istore (pc := 30) dX8_oneByOne_30 (by decide) rfl ?_
        show J X mX8_oneByOne d (kc - 1) (ks - y3) 32 [some (.ref 19), some (.int (nI s)), some (.int (nI e)), some (.int (nI y3)), some (.ref a25), some (.int (nI 0)), none, none, none, none, none, none] [] w5 _
        refine J_iload_n (pc := 32) dX8_oneByOne_32 rfl rfl ?_
        refine J_newW (pc := 33) (M := mX8_oneByOne) (N := y3) dX8_oneByOne_33 fa_int rfl (by omega) (by omega) (by omega) (fun a33 w6 ha6 hln6 hc6 hne6 => ?_)
        have q196 := gl h19_5
        have q206 := gl h20_5
        have q216 := gl h21_5
        have q226 := gl h22_5
        have qb6 := gl hb_5
        have qa256 := gl hc5
        have qF6 := hF5.1
        have h19_6 := (hne6 19 (by omega)).trans h19_5
        have h20_6 := (hne6 20 (by omega)).trans h20_5
        have h21_6 := (hne6 21 (by omega)).trans h21_5
        have h22_6 := (hne6 22 (by omega)).trans h22_5
        have hb_6 := (hne6 _ (by omega)).trans hb_5
        have hla25_6 := (hne6 a25 (by omega)).trans hc5
        have hF6 := hF5.pu ha6 hln6 hne6
        rw [aF_0] at hc6
        refine J_astore (pc := 35) dX8_oneByOne_35 (by decide) rfl rfl ?_
        show J X mX8_oneByOne d (kc - 1 - 1) (ks - y3 - y3) 37 [some (.ref 19), some (.int (nI s)), some (.int (nI e)), some (.int (nI y3)), some (.ref a25), some (.int (nI 0)), some (.ref a33), none, none, none, none, none] [] w6 _
        refine J_iconst (pc := 37) (v := nI 0) dX8_oneByOne_37 (by decide) ?_
        refine J_istore (pc := 38) dX8_oneByOne_38 (by decide) rfl ?_
        show J X mX8_oneByOne d (kc - 1 - 1) (ks - y3 - y3) 40 [some (.ref 19), some (.int (nI s)), some (.int (nI e)), some (.int (nI y3)), some (.ref a25), some (.int (nI 0)), some (.ref a33), some (.int (nI 0)), none, none, none, none] [] w6 _
        have lp40_7 : ∀ (fuel : Nat) (w8 : List jC) (nx_40 : Nat → Nat) (f25_40 : Nat → Nat) (f33_40 : Nat → Nat) (z5 : Int32) (c7 : Nat), (RM n mv rw nx_40 b bt kn en dn rf kk th w8) → (FR b b w w8) → (∀ i, nx_40 i < 7) → (w8[a25]? = some (aF y3 f25_40)) → (w8[a33]? = some (aF y3 f33_40)) → (∀ i, f25_40 i < 2) → (∀ i, f33_40 i < y3) → (c7 ≤ y3) → (y3 - c7 < fuel) → J X mX8_oneByOne d (kc - 1 - 1) (ks - y3 - y3) 40 [some (.ref 19), some (.int (nI s)), some (.int (nI e)), some (.int (nI y3)), some (.ref a25), some (.int z5), some (.ref a33), some (.int (nI c7)), none, none, none, none] [] w8 (pI (fun _ => True) (fun w' => ∃ (nx' : Nat → Nat), RM n mv rw nx' b bt kn en dn rf kk th w' ∧ FR b b w w' ∧ (∀ i, nx' i < 7))) := by
          intro fuellp40_7
          induction fuellp40_7 with
          | zero => intros; omega
          | succ fuellp40_7 ihlp40_7 =>
            intro w8 nx_40 f25_40 f33_40 z5 c7 hR9 hF10 gx11 hl12 hl13 hv40_0 hv40_1 hv40_2 hf14
            obtain ⟨h19_15, h20_15, h21_15, h22_15, hb_15, hbl_15, hb3_15⟩ := hR9
            refine J_iload (pc := 40) dX8_oneByOne_40 rfl ?_
            refine J_iload_n (pc := 42) dX8_oneByOne_42 rfl rfl ?_
            refine J_icmp_geN (pc := 43) (tgt := 167) dX8_oneByOne_43 (by decide) (by omega) (by omega) (fun ht16 => ?_) (fun hf17 => ?_)
            · refine J_iload (pc := 167) dX8_oneByOne_167 rfl ?_
              exact J_iret (pc := 169) dX8_oneByOne_169 rfl ⟨trivial, ⟨nx_40, ⟨h19_15, h20_15, h21_15, h22_15, hb_15, hbl_15, hb3_15⟩, hF10, gx11⟩⟩
            · refine J_aload (pc := 46) dX8_oneByOne_46 rfl rfl ?_
              refine J_iload (pc := 48) dX8_oneByOne_48 rfl ?_
              refine J_ialdF (pc := 50) dX8_oneByOne_50 hl12 (by omega) (by omega) ?_
              refine J_iconst (pc := 51) (v := nI 1) dX8_oneByOne_51 (by decide) ?_
              have hq52 := hv40_0 c7
              refine J_icmp_neN (pc := 52) (tgt := 58) dX8_oneByOne_52 (by decide) (by omega) (by omega) (fun ht18 => ?_) (fun hf19 => ?_)
              · refine J_iinc (pc := 58) dX8_oneByOne_58 rfl rfl (by decide) rfl ?_
                generalize z5 + Int32.ofInt 1 = x20
                show J X mX8_oneByOne d (kc - 1 - 1) (ks - y3 - y3) 61 [some (.ref 19), some (.int (nI s)), some (.int (nI e)), some (.int (nI y3)), some (.ref a25), some (.int x20), some (.ref a33), some (.int (nI c7)), none, none, none, none] [] w8 _
                refine J_aload (pc := 61) dX8_oneByOne_61 rfl rfl ?_
                refine J_iload (pc := 63) dX8_oneByOne_63 rfl ?_
                refine J_iconst (pc := 65) (v := nI 1) dX8_oneByOne_65 (by decide) ?_
                refine J_iastF (pc := 66) dX8_oneByOne_66 hl12 (by omega) (by omega) (fun w21 hln21 hc21 hne21 => ?_)
                have h19_21 := (hne21 19 (by omega)).trans h19_15
                have h20_21 := (hne21 20 (by omega)).trans h20_15
                have h21_21 := (hne21 21 (by omega)).trans h21_15
                have h22_21 := (hne21 22 (by omega)).trans h22_15
                have hb_21 := (hne21 _ (by omega)).trans hb_15
                have hla33_21 := (hne21 a33 (by omega)).trans hl13
                have hF21 := hF10.st hln21 hne21 (Or.inr (Or.inr (by omega)))
                refine J_aload (pc := 67) dX8_oneByOne_67 rfl rfl ?_
                refine J_iconst (pc := 69) (v := nI 0) dX8_oneByOne_69 (by decide) ?_
                refine J_iload (pc := 70) dX8_oneByOne_70 rfl ?_
                refine J_iastF (pc := 72) dX8_oneByOne_72 hla33_21 (by omega) (by omega) (fun w22 hln22 hc22 hne22 => ?_)
                have h19_22 := (hne22 19 (by omega)).trans h19_21
                have h20_22 := (hne22 20 (by omega)).trans h20_21
                have h21_22 := (hne22 21 (by omega)).trans h21_21
                have h22_22 := (hne22 22 (by omega)).trans h22_21
                have hb_22 := (hne22 _ (by omega)).trans hb_21
                have hla25_22 := (hne22 a25 (by omega)).trans hc21
                have hF22 := hF21.st hln22 hne22 (Or.inr (Or.inr (by omega)))
                refine J_iconst (pc := 73) (v := nI 1) dX8_oneByOne_73 (by decide) ?_
                refine J_istore (pc := 74) dX8_oneByOne_74 (by decide) rfl ?_
                show J X mX8_oneByOne d (kc - 1 - 1) (ks - y3 - y3) 76 [some (.ref 19), some (.int (nI s)), some (.int (nI e)), some (.int (nI y3)), some (.ref a25), some (.int x20), some (.ref a33), some (.int (nI c7)), some (.int (nI 1)), none, none, none] [] w22 _
                have lp76_23 : ∀ (fuel : Nat) (w24 : List jC) (nx_76 : Nat → Nat) (f25_76 : Nat → Nat) (f33_76 : Nat → Nat) (c8 : Nat), (RM n mv rw nx_76 b bt kn en dn rf kk th w24) → (FR b b w w24) → (∀ i, nx_76 i < 7) → (w24[a25]? = some (aF y3 f25_76)) → (w24[a33]? = some (aF y3 f33_76)) → (∀ i, f25_76 i < 2) → (∀ i, f33_76 i < y3) → (c8 ≤ (cnt (fun i => f25_76 i == 1) y3)) → (2 * (y3 - (cnt (fun i => f25_76 i == 1) y3)) + c8 < fuel) → J X mX8_oneByOne d (kc - 1 - 1) (ks - y3 - y3) 76 [some (.ref 19), some (.int (nI s)), some (.int (nI e)), some (.int (nI y3)), some (.ref a25), some (.int x20), some (.ref a33), some (.int (nI c7)), some (.int (nI c8)), none, none, none] [] w24 (pI (fun _ => True) (fun w' => ∃ (nx' : Nat → Nat), RM n mv rw nx' b bt kn en dn rf kk th w' ∧ FR b b w w' ∧ (∀ i, nx' i < 7))) := by
                  intro fuellp76_23
                  induction fuellp76_23 with
                  | zero => intros; omega
                  | succ fuellp76_23 ihlp76_23 =>
                    intro w24 nx_76 f25_76 f33_76 c8 hR25 hF26 gx27 hl28 hl29 hv76_0 hv76_1 hv76_2 hf30
                    obtain ⟨h19_31, h20_31, h21_31, h22_31, hb_31, hbl_31, hb3_31⟩ := hR25
                    have hcs76 := cnt_le (fun i => f25_76 i == 1) y3
                    refine J_iload (pc := 76) dX8_oneByOne_76 rfl ?_
                    refine J_if_leN (pc := 78) (tgt := 161) dX8_oneByOne_78 (by decide) (by omega) (fun ht32 => ?_) (fun hf33 => ?_)
                    · refine J_iincN (pc := 161) (b := 1) dX8_oneByOne_161 rfl (by decide) (by decide) rfl ?_
                      show J X mX8_oneByOne d (kc - 1 - 1) (ks - y3 - y3) 164 [some (.ref 19), some (.int (nI s)), some (.int (nI e)), some (.int (nI y3)), some (.ref a25), some (.int x20), some (.ref a33), some (.int (nI (c7 + 1))), some (.int (nI c8)), none, none, none] [] w24 _
                      refine J_goto (pc := 164) (tgt := 40) dX8_oneByOne_164 (by decide) ?_
                      exact J_sub (L' := [some (.ref 19), some (.int (nI s)), some (.int (nI e)), some (.int (nI y3)), some (.ref a25), some (.int x20), some (.ref a33), some (.int (nI (c7 + 1))), none, none, none, none]) ⟨rfl, ⟨rfl, ⟨rfl, ⟨rfl, ⟨rfl, ⟨rfl, ⟨rfl, ⟨rfl, trivial⟩⟩⟩⟩⟩⟩⟩⟩ (ihlp40_7 w24 nx_76 f25_76 f33_76 x20 (c7 + 1) ⟨h19_31, h20_31, h21_31, h22_31, hb_31, hbl_31, hb3_31⟩ hF26 gx27 hl28 hl29 (by assumption) (by assumption) (by first | assumption | omega) (by omega))
                    · refine J_iincM (pc := 81) dX8_oneByOne_81 rfl (by omega) (by decide) rfl ?_
                      show J X mX8_oneByOne d (kc - 1 - 1) (ks - y3 - y3) 84 [some (.ref 19), some (.int (nI s)), some (.int (nI e)), some (.int (nI y3)), some (.ref a25), some (.int x20), some (.ref a33), some (.int (nI c7)), some (.int (nI (c8 - 1))), none, none, none] [] w24 _
                      refine J_aload (pc := 84) dX8_oneByOne_84 rfl rfl ?_
                      refine J_iload (pc := 86) dX8_oneByOne_86 rfl ?_
                      refine J_ialdF (pc := 88) dX8_oneByOne_88 hl29 (by omega) (by omega) ?_
                      have hq89 := hv76_1 (c8 - 1)
                      refine J_istore (pc := 89) dX8_oneByOne_89 (by decide) rfl ?_
                      show J X mX8_oneByOne d (kc - 1 - 1) (ks - y3 - y3) 91 [some (.ref 19), some (.int (nI s)), some (.int (nI e)), some (.int (nI y3)), some (.ref a25), some (.int x20), some (.ref a33), some (.int (nI c7)), some (.int (nI (c8 - 1))), some (.int (nI (f33_76 (c8 - 1)))), none, none] [] w24 _
                      refine J_iconst (pc := 91) (v := nI 0) dX8_oneByOne_91 (by decide) ?_
                      refine J_istore (pc := 92) dX8_oneByOne_92 (by decide) rfl ?_
                      show J X mX8_oneByOne d (kc - 1 - 1) (ks - y3 - y3) 94 [some (.ref 19), some (.int (nI s)), some (.int (nI e)), some (.int (nI y3)), some (.ref a25), some (.int x20), some (.ref a33), some (.int (nI c7)), some (.int (nI (c8 - 1))), some (.int (nI (f33_76 (c8 - 1)))), some (.int (nI 0)), none] [] w24 _
                      have lp94_34 : ∀ (fuel : Nat) (w35 : List jC) (nx_94 : Nat → Nat) (f25_94 : Nat → Nat) (f33_94 : Nat → Nat) (x8 : Nat) (c10 : Nat), (RM n mv rw nx_94 b bt kn en dn rf kk th w35) → (FR b b w w35) → (∀ i, nx_94 i < 7) → (w35[a25]? = some (aF y3 f25_94)) → (w35[a33]? = some (aF y3 f33_94)) → (∀ i, f25_94 i < 2) → (∀ i, f33_94 i < y3) → (x8 ≤ (cnt (fun i => f25_94 i == 1) y3)) → (2 * (y3 - (cnt (fun i => f25_94 i == 1) y3)) + x8 + 1 ≤ 2 * (y3 - cnt (fun i => f25_76 i == 1) y3) + c8) → (c10 ≤ 6) → (6 - c10 < fuel) → J X mX8_oneByOne d (kc - 1 - 1) (ks - y3 - y3) 94 [some (.ref 19), some (.int (nI s)), some (.int (nI e)), some (.int (nI y3)), some (.ref a25), some (.int x20), some (.ref a33), some (.int (nI c7)), some (.int (nI x8)), some (.int (nI (f33_76 (c8 - 1)))), some (.int (nI c10)), none] [] w35 (pI (fun _ => True) (fun w' => ∃ (nx' : Nat → Nat), RM n mv rw nx' b bt kn en dn rf kk th w' ∧ FR b b w w' ∧ (∀ i, nx' i < 7))) := by
                        intro fuellp94_34
                        induction fuellp94_34 with
                        | zero => intros; omega
                        | succ fuellp94_34 ihlp94_34 =>
                          intro w35 nx_94 f25_94 f33_94 x8 c10 hR36 hF37 gx38 hl39 hl40 hv94_0 hv94_1 hv94_2 hv94_3 hv94_4 hf41
                          obtain ⟨h19_42, h20_42, h21_42, h22_42, hb_42, hbl_42, hb3_42⟩ := hR36
                          refine J_iload (pc := 94) dX8_oneByOne_94 rfl ?_
                          refine J_bipush (pc := 96) (v := nI 6) dX8_oneByOne_96 (by decide) ?_
                          refine J_icmp_geN (pc := 98) (tgt := 158) dX8_oneByOne_98 (by decide) (by omega) (by omega) (fun ht43 => ?_) (fun hf44 => ?_)
                          · refine J_goto (pc := 158) (tgt := 76) dX8_oneByOne_158 (by decide) ?_
                            exact J_sub (L' := [some (.ref 19), some (.int (nI s)), some (.int (nI e)), some (.int (nI y3)), some (.ref a25), some (.int x20), some (.ref a33), some (.int (nI c7)), some (.int (nI x8)), none, none, none]) ⟨rfl, ⟨rfl, ⟨rfl, ⟨rfl, ⟨rfl, ⟨rfl, ⟨rfl, ⟨rfl, ⟨rfl, trivial⟩⟩⟩⟩⟩⟩⟩⟩⟩ (ihlp76_23 w35 nx_94 f25_94 f33_94 x8 ⟨h19_42, h20_42, h21_42, h22_42, hb_42, hbl_42, hb3_42⟩ hF37 gx38 hl39 hl40 (by assumption) (by assumption) (by omega) (by omega))
                          · refine J_iload_n (pc := 101) dX8_oneByOne_101 rfl rfl ?_
                            refine J_iload (pc := 102) dX8_oneByOne_102 rfl ?_
                            refine J_ishrN (pc := 104) dX8_oneByOne_104 (by omega) (by omega) ?_
                            refine J_iconst (pc := 105) (v := nI 1) dX8_oneByOne_105 (by decide) ?_
                            have hm45 := Nat.mod_lt (s / 2 ^ c10) (show 0 < 2 ^ 1 by decide)
                            have hm46 := Nat.div_le_self s (2 ^ c10)
                            refine J_iandN (pc := 106) 1 dX8_oneByOne_106 (by omega) (by decide) ?_
                            refine J_if_neN (pc := 107) (tgt := 113) dX8_oneByOne_107 (by decide) (by omega) (fun ht47 => ?_) (fun hf48 => ?_)
                            · refine J_aload_n (pc := 113) dX8_oneByOne_113 rfl rfl rfl ?_
                              refine J_iload (pc := 114) dX8_oneByOne_114 rfl ?_
                              refine J_iload (pc := 116) dX8_oneByOne_116 rfl ?_
                              refine J_iload_n (pc := 118) dX8_oneByOne_118 rfl rfl ?_
                              refine J_callV0 (pc := 119) (M := mX8_oneByOne) (as := [.int (nI (f33_76 (c8 - 1))), .int (nI c10), .int (nI e)]) dX8_oneByOne_119 fw_X8_coloured fl_X8_206 fm_X8_coloured fe_X8_coloured h19_42 (by decide) rfl rfl rfl (c_X8_coloured hs (d := d - 1) (Nat.le_trans (by decide) hdm) (w := w35) (n := n) (mv := mv) (rw := rw) (nx := nx_94) (b := b) (bt := bt) (kn := kn) (en := en) (dn := dn) (rf := rf) (kk := kk) (th := th) ⟨h19_42, h20_42, h21_42, h22_42, hb_42, hbl_42, hb3_42⟩ hn1 hn2 gm gr gx38 (f33_76 (c8 - 1)) c10 e (by first | assumption | omega) (by first | assumption | omega) (by first | assumption | omega) (by first | assumption | omega) (by first | assumption | omega) (kc := 0) (ks := 0)) hdp (st := []) (Nat.le_of_ble_eq_true rfl) rfl (kr_I fun v49 w49 hv49 hw49 => ?_) kx_I
                              obtain ⟨nx49, hR49, hFc49, hgnx49⟩ := hw49
                              obtain ⟨h19_49, h20_49, h21_49, h22_49, hbb_49, hbl_49, hb3_49⟩ := hR49
                              have hla25_49 := hFc49.at hl39 (by omega) (by omega)
                              have hla33_49 := hFc49.at hl40 (by omega) (by omega)
                              have hF49 := hF37.tr hFc49
                              obtain ⟨k49, rfl, hk49⟩ := hv49
                              refine J_istore (pc := 122) dX8_oneByOne_122 (by decide) rfl ?_
                              show J X mX8_oneByOne d (kc - 1 - 1) (ks - y3 - y3) 124 [some (.ref 19), some (.int (nI s)), some (.int (nI e)), some (.int (nI y3)), some (.ref a25), some (.int x20), some (.ref a33), some (.int (nI c7)), some (.int (nI x8)), some (.int (nI (f33_76 (c8 - 1)))), some (.int (nI c10)), some (.int (nI k49))] [] w49 _
                              refine J_aload (pc := 124) dX8_oneByOne_124 rfl rfl ?_
                              refine J_iload (pc := 126) dX8_oneByOne_126 rfl ?_
                              refine J_ialdF (pc := 128) dX8_oneByOne_128 hla25_49 (by omega) (by omega) ?_
                              refine J_iconst (pc := 129) (v := nI 1) dX8_oneByOne_129 (by decide) ?_
                              have hq130 := hv94_0 k49
                              refine J_icmp_neN (pc := 130) (tgt := 136) dX8_oneByOne_130 (by decide) (by omega) (by omega) (fun ht50 => ?_) (fun hf51 => ?_)
                              · have hcu := cnt_up1 (P := f25_94) (K := y3) (j := k49) (by omega) (by omega)
                                refine J_aload (pc := 136) dX8_oneByOne_136 rfl rfl ?_
                                refine J_iload (pc := 138) dX8_oneByOne_138 rfl ?_
                                refine J_iconst (pc := 140) (v := nI 1) dX8_oneByOne_140 (by decide) ?_
                                refine J_iastF (pc := 141) dX8_oneByOne_141 hla25_49 (by omega) (by omega) (fun w52 hln52 hc52 hne52 => ?_)
                                have h19_52 := (hne52 19 (by omega)).trans h19_49
                                have h20_52 := (hne52 20 (by omega)).trans h20_49
                                have h21_52 := (hne52 21 (by omega)).trans h21_49
                                have h22_52 := (hne52 22 (by omega)).trans h22_49
                                have hb_52 := (hne52 _ (by omega)).trans hbb_49
                                have hla33_52 := (hne52 a33 (by omega)).trans hla33_49
                                have hF52 := hF49.st hln52 hne52 (Or.inr (Or.inr (by omega)))
                                refine J_aload (pc := 142) dX8_oneByOne_142 rfl rfl ?_
                                refine J_iload (pc := 144) dX8_oneByOne_144 rfl ?_
                                refine J_iload (pc := 146) dX8_oneByOne_146 rfl ?_
                                refine J_iastF (pc := 148) dX8_oneByOne_148 hla33_52 (by omega) (by omega) (fun w53 hln53 hc53 hne53 => ?_)
                                have h19_53 := (hne53 19 (by omega)).trans h19_52
                                have h20_53 := (hne53 20 (by omega)).trans h20_52
                                have h21_53 := (hne53 21 (by omega)).trans h21_52
                                have h22_53 := (hne53 22 (by omega)).trans h22_52
                                have hb_53 := (hne53 _ (by omega)).trans hb_52
                                have hla25_53 := (hne53 a25 (by omega)).trans hc52
                                have hF53 := hF52.st hln53 hne53 (Or.inr (Or.inr (by omega)))
                                refine J_iincN (pc := 149) (b := 1) dX8_oneByOne_149 rfl (by decide) (by decide) rfl ?_
                                show J X mX8_oneByOne d (kc - 1 - 1) (ks - y3 - y3) 152 [some (.ref 19), some (.int (nI s)), some (.int (nI e)), some (.int (nI y3)), some (.ref a25), some (.int x20), some (.ref a33), some (.int (nI c7)), some (.int (nI (x8 + 1))), some (.int (nI (f33_76 (c8 - 1)))), some (.int (nI c10)), some (.int (nI k49))] [] w53 _
                                refine J_iincN (pc := 152) (b := 1) dX8_oneByOne_152 rfl (by decide) (by decide) rfl ?_
                                show J X mX8_oneByOne d (kc - 1 - 1) (ks - y3 - y3) 155 [some (.ref 19), some (.int (nI s)), some (.int (nI e)), some (.int (nI y3)), some (.ref a25), some (.int x20), some (.ref a33), some (.int (nI c7)), some (.int (nI (x8 + 1))), some (.int (nI (f33_76 (c8 - 1)))), some (.int (nI (c10 + 1))), some (.int (nI k49))] [] w53 _
                                refine J_goto (pc := 155) (tgt := 94) dX8_oneByOne_155 (by decide) ?_
                                exact J_sub (L' := [some (.ref 19), some (.int (nI s)), some (.int (nI e)), some (.int (nI y3)), some (.ref a25), some (.int x20), some (.ref a33), some (.int (nI c7)), some (.int (nI (x8 + 1))), some (.int (nI (f33_76 (c8 - 1)))), some (.int (nI (c10 + 1))), none]) ⟨rfl, ⟨rfl, ⟨rfl, ⟨rfl, ⟨rfl, ⟨rfl, ⟨rfl, ⟨rfl, ⟨rfl, ⟨rfl, ⟨rfl, trivial⟩⟩⟩⟩⟩⟩⟩⟩⟩⟩⟩ (ihlp94_34 w53 nx49 (up f25_94 k49 1) (up f33_94 x8 k49) (x8 + 1) (c10 + 1) ⟨h19_53, h20_53, h21_53, h22_53, hb_53, hbl_49, hb3_49⟩ hF53 hgnx49 hla25_53 hc53 (by first | assumption | exact up_b hv94_0 (by decide)) (by first | assumption | exact up_b hv94_1 (by omega)) (by first | assumption | omega) (by first | assumption | omega) (by first | assumption | omega) (by omega))
                              · refine J_goto (pc := 133) (tgt := 152) dX8_oneByOne_133 (by decide) ?_
                                refine J_iincN (pc := 152) (b := 1) dX8_oneByOne_152 rfl (by decide) (by decide) rfl ?_
                                show J X mX8_oneByOne d (kc - 1 - 1) (ks - y3 - y3) 155 [some (.ref 19), some (.int (nI s)), some (.int (nI e)), some (.int (nI y3)), some (.ref a25), some (.int x20), some (.ref a33), some (.int (nI c7)), some (.int (nI x8)), some (.int (nI (f33_76 (c8 - 1)))), some (.int (nI (c10 + 1))), some (.int (nI k49))] [] w49 _
                                refine J_goto (pc := 155) (tgt := 94) dX8_oneByOne_155 (by decide) ?_
                                exact J_sub (L' := [some (.ref 19), some (.int (nI s)), some (.int (nI e)), some (.int (nI y3)), some (.ref a25), some (.int x20), some (.ref a33), some (.int (nI c7)), some (.int (nI x8)), some (.int (nI (f33_76 (c8 - 1)))), some (.int (nI (c10 + 1))), none]) ⟨rfl, ⟨rfl, ⟨rfl, ⟨rfl, ⟨rfl, ⟨rfl, ⟨rfl, ⟨rfl, ⟨rfl, ⟨rfl, ⟨rfl, trivial⟩⟩⟩⟩⟩⟩⟩⟩⟩⟩⟩ (ihlp94_34 w49 nx49 f25_94 f33_94 x8 (c10 + 1) ⟨h19_49, h20_49, h21_49, h22_49, hbb_49, hbl_49, hb3_49⟩ hF49 hgnx49 hla25_49 hla33_49 (by first | assumption | exact up_b hv94_0 (by decide)) (by first | assumption | exact up_b hv94_1 (by omega)) (by first | assumption | omega) (by first | assumption | omega) (by first | assumption | omega) (by omega))
                            · refine J_goto (pc := 110) (tgt := 152) dX8_oneByOne_110 (by decide) ?_
                              refine J_iincN (pc := 152) (b := 1) dX8_oneByOne_152 rfl (by decide) (by decide) rfl ?_
                              show J X mX8_oneByOne d (kc - 1 - 1) (ks - y3 - y3) 155 [some (.ref 19), some (.int (nI s)), some (.int (nI e)), some (.int (nI y3)), some (.ref a25), some (.int x20), some (.ref a33), some (.int (nI c7)), some (.int (nI x8)), some (.int (nI (f33_76 (c8 - 1)))), some (.int (nI (c10 + 1))), none] [] w35 _
                              refine J_goto (pc := 155) (tgt := 94) dX8_oneByOne_155 (by decide) ?_
                              exact J_sub (L' := [some (.ref 19), some (.int (nI s)), some (.int (nI e)), some (.int (nI y3)), some (.ref a25), some (.int x20), some (.ref a33), some (.int (nI c7)), some (.int (nI x8)), some (.int (nI (f33_76 (c8 - 1)))), some (.int (nI (c10 + 1))), none]) ⟨rfl, ⟨rfl, ⟨rfl, ⟨rfl, ⟨rfl, ⟨rfl, ⟨rfl, ⟨rfl, ⟨rfl, ⟨rfl, ⟨rfl, trivial⟩⟩⟩⟩⟩⟩⟩⟩⟩⟩⟩ (ihlp94_34 w35 nx_94 f25_94 f33_94 x8 (c10 + 1) ⟨h19_42, h20_42, h21_42, h22_42, hb_42, hbl_42, hb3_42⟩ hF37 gx38 hl39 hl40 (by first | assumption | exact up_b hv94_0 (by decide)) (by first | assumption | exact up_b hv94_1 (by omega)) (by first | assumption | omega) (by first | assumption | omega) (by first | assumption | omega) (by omega))
                      exact J_sub (L' := [some (.ref 19), some (.int (nI s)), some (.int (nI e)), some (.int (nI y3)), some (.ref a25), some (.int x20), some (.ref a33), some (.int (nI c7)), some (.int (nI (c8 - 1))), some (.int (nI (f33_76 (c8 - 1)))), some (.int (nI 0)), none]) ⟨rfl, ⟨rfl, ⟨rfl, ⟨rfl, ⟨rfl, ⟨rfl, ⟨rfl, ⟨rfl, ⟨rfl, ⟨rfl, ⟨rfl, trivial⟩⟩⟩⟩⟩⟩⟩⟩⟩⟩⟩ (lp94_34 _ w24 nx_76 f25_76 f33_76 (c8 - 1) 0 ⟨h19_31, h20_31, h21_31, h22_31, hb_31, hbl_31, hb3_31⟩ hF26 gx27 hl28 hl29 (by assumption) (by assumption) (by omega) (by omega) (by first | assumption | omega) (Nat.lt_succ_self _))
                exact J_sub (L' := [some (.ref 19), some (.int (nI s)), some (.int (nI e)), some (.int (nI y3)), some (.ref a25), some (.int x20), some (.ref a33), some (.int (nI c7)), some (.int (nI 1)), none, none, none]) ⟨rfl, ⟨rfl, ⟨rfl, ⟨rfl, ⟨rfl, ⟨rfl, ⟨rfl, ⟨rfl, ⟨rfl, trivial⟩⟩⟩⟩⟩⟩⟩⟩⟩ (lp76_23 _ w22 nx_40 (up f25_40 c7 1) (up f33_40 0 c7) 1 ⟨h19_22, h20_22, h21_22, h22_22, hb_22, hbl_15, hb3_15⟩ hF22 gx11 hla25_22 hc22 (by exact up_b hv40_0 (by decide)) (by exact up_b hv40_1 (by omega)) (by exact cnt_pos _ c7 (by omega) (by rw [up_s]; rfl)) (Nat.lt_succ_self _))
              · refine J_goto (pc := 55) (tgt := 161) dX8_oneByOne_55 (by decide) ?_
                refine J_iincN (pc := 161) (b := 1) dX8_oneByOne_161 rfl (by decide) (by decide) rfl ?_
                show J X mX8_oneByOne d (kc - 1 - 1) (ks - y3 - y3) 164 [some (.ref 19), some (.int (nI s)), some (.int (nI e)), some (.int (nI y3)), some (.ref a25), some (.int z5), some (.ref a33), some (.int (nI (c7 + 1))), none, none, none, none] [] w8 _
                refine J_goto (pc := 164) (tgt := 40) dX8_oneByOne_164 (by decide) ?_
                exact J_sub (L' := [some (.ref 19), some (.int (nI s)), some (.int (nI e)), some (.int (nI y3)), some (.ref a25), some (.int z5), some (.ref a33), some (.int (nI (c7 + 1))), none, none, none, none]) ⟨rfl, ⟨rfl, ⟨rfl, ⟨rfl, ⟨rfl, ⟨rfl, ⟨rfl, ⟨rfl, trivial⟩⟩⟩⟩⟩⟩⟩⟩ (ihlp40_7 w8 nx_40 f25_40 f33_40 z5 (c7 + 1) ⟨h19_15, h20_15, h21_15, h22_15, hb_15, hbl_15, hb3_15⟩ hF10 gx11 hl12 hl13 (by assumption) (by assumption) (by first | assumption | omega) (by omega))
        exact J_sub (L' := [some (.ref 19), some (.int (nI s)), some (.int (nI e)), some (.int (nI y3)), some (.ref a25), some (.int (nI 0)), some (.ref a33), some (.int (nI 0)), none, none, none, none]) ⟨rfl, ⟨rfl, ⟨rfl, ⟨rfl, ⟨rfl, ⟨rfl, ⟨rfl, ⟨rfl, trivial⟩⟩⟩⟩⟩⟩⟩⟩ (lp40_7 _ w6 nx (fun _ => 0) (fun _ => 0) (nI 0) 0 ⟨h19_6, h20_6, h21_6, h22_6, hb_6, hbl, hb3⟩ hF6 gx hla25_6 hc6 (by intro i; decide) (by intro i; exact hy31) (by first | assumption | omega) (Nat.lt_succ_self _))
      · refine J_iload_n (pc := 14) dX8_oneByOne_14 rfl rfl ?_
        refine J_iload_n (pc := 15) dX8_oneByOne_15 rfl rfl ?_
        refine J_imulN (pc := 16) dX8_oneByOne_16 ?_
        refine J_istore_n (pc := 17) dX8_oneByOne_17 rfl (by decide) rfl ?_
        show J X mX8_oneByOne d kc ks 18 [some (.ref 19), some (.int (nI s)), some (.int (nI e)), some (.int (nI (y3 * e))), some (.int (nI c4)), none, none, none, none, none, none, none] [] w _
        refine J_iincN (pc := 18) (b := 1) dX8_oneByOne_18 rfl (by decide) (by decide) rfl ?_
        show J X mX8_oneByOne d kc ks 21 [some (.ref 19), some (.int (nI s)), some (.int (nI e)), some (.int (nI (y3 * e))), some (.int (nI (c4 + 1))), none, none, none, none, none, none, none] [] w _
        refine J_goto (pc := 21) (tgt := 5) dX8_oneByOne_21 (by decide) ?_
        exact J_sub (L' := [some (.ref 19), some (.int (nI s)), some (.int (nI e)), some (.int (nI (y3 * e))), some (.int (nI (c4 + 1))), none, none, none, none, none, none, none]) ⟨rfl, ⟨rfl, ⟨rfl, ⟨rfl, ⟨rfl, trivial⟩⟩⟩⟩⟩ (ihlp5_1 (y3 * e) (c4 + 1) (by rw [hv5_0]; exact (Nat.pow_succ e c4).symm) (by first | assumption | omega) (by omega))
  exact J_sub (L' := [some (.ref 19), some (.int (nI s)), some (.int (nI e)), some (.int (nI 1)), some (.int (nI 0)), none, none, none, none, none, none, none]) ⟨rfl, ⟨rfl, ⟨rfl, ⟨rfl, ⟨rfl, trivial⟩⟩⟩⟩⟩ (lp5_1 _ 1 0 (by rfl) (by first | assumption | omega) (Nat.lt_succ_self _))
end
