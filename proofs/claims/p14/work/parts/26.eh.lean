/-! contracts of the reference: rspec4 -/
set_option maxRecDepth 100000 in
set_option maxHeartbeats 40000000 in
theorem c_X8_comesNow {X : jX} (hs : X.1.stackTraces = false) {d : Nat} (hd : 1 ≤ d) {n : Nat} {mv rw nx : Nat → Nat} {b : Nat} {bt : List Int32} {kn en dn rf kk th : Int32} {w : List jC} (hR : RM n mv rw nx b bt kn en dn rf kk th w) (hn1 : 2 ≤ n) (hn2 : n ≤ 7) (gm : ∀ i, mv i < 7) (gr : ∀ i, rw i < 7) (gx : ∀ i, nx i < 7) (s : Nat) (a : Nat) (hy0 : s < 64) (hy1 : a < 7) {kc ks : Nat} : jMet X mX8_comesNow d kc ks [.ref 19, .int (nI s), .int (nI a)] w (pI (fun _ => True) (fun w' => w' = w)) := by
  refine jMet_of hs (by decide +kernel) (Nat.le_of_ble_eq_true rfl) (L := [some (.ref 19), some (.int (nI s)), some (.int (nI a)), none, none, none, none]) rfl ?_
  have hdm : 0 ≤ d - 1 := by omega
  have hdp : d - 1 + 1 ≤ d := by omega
  have hfc := fc_7 hn2
  have hfp := fc_pos n
  obtain ⟨h19, h20, h21, h22, hbb, hbl, hb3⟩ := hR
  have hF : FR b b w w := FR.rf
  refine J_iconst (pc := 0) (v := nI 1) dX8_comesNow_0 (by decide) ?_
  refine J_iload_n (pc := 1) dX8_comesNow_1 rfl rfl ?_
  refine J_ishl (pc := 2) dX8_comesNow_2 (J_absI fun x1 => ?_)
  refine J_istore_n (pc := 3) dX8_comesNow_3 rfl (by decide) rfl ?_
  show J X mX8_comesNow d kc ks 4 [some (.ref 19), some (.int (nI s)), some (.int (nI a)), some (.int x1), none, none, none] [] w _
  refine J_iconst (pc := 4) (v := nI 0) dX8_comesNow_4 (by decide) ?_
  refine J_istore (pc := 5) dX8_comesNow_5 (by decide) rfl ?_
  show J X mX8_comesNow d kc ks 7 [some (.ref 19), some (.int (nI s)), some (.int (nI a)), some (.int x1), some (.int (nI 0)), none, none] [] w _
  have lp7_2 : ∀ (fuel : Nat) (z3 : Int32) (c4 : Nat), (c4 ≤ n) → (n - c4 < fuel) → J X mX8_comesNow d kc ks 7 [some (.ref 19), some (.int (nI s)), some (.int (nI a)), some (.int z3), some (.int (nI c4)), none, none] [] w (pI (fun _ => True) (fun w' => w' = w)) := by
    intro fuellp7_2
    induction fuellp7_2 with
    | zero => intros; omega
    | succ fuellp7_2 ihlp7_2 =>
      intro z3 c4 hv7_0 hf3
      refine J_iload (pc := 7) dX8_comesNow_7 rfl ?_
      refine J_aload_n (pc := 9) dX8_comesNow_9 rfl rfl rfl ?_
      refine J_get (pc := 10) (k := 0) dX8_comesNow_10 kC9 (by decide) ff_X8_7 h19 rfl ?_
      refine J_icmp_geN (pc := 13) (tgt := 91) dX8_comesNow_13 (by decide) (by omega) (by omega) (fun ht4 => ?_) (fun hf5 => ?_)
      · refine J_iload_n (pc := 91) dX8_comesNow_91 rfl rfl ?_
        exact J_iret (pc := 92) dX8_comesNow_92 rfl ⟨trivial, rfl⟩
      · refine J_iconst (pc := 16) (v := nI 0) dX8_comesNow_16 (by decide) ?_
        refine J_istore (pc := 17) dX8_comesNow_17 (by decide) rfl ?_
        show J X mX8_comesNow d kc ks 19 [some (.ref 19), some (.int (nI s)), some (.int (nI a)), some (.int z3), some (.int (nI c4)), some (.int (nI 0)), none] [] w _
        have lp19_6 : ∀ (fuel : Nat) (z3 : Int32) (c5 : Nat), (c5 ≤ 6) → (6 - c5 < fuel) → J X mX8_comesNow d kc ks 19 [some (.ref 19), some (.int (nI s)), some (.int (nI a)), some (.int z3), some (.int (nI c4)), some (.int (nI c5)), none] [] w (pI (fun _ => True) (fun w' => w' = w)) := by
          intro fuellp19_6
          induction fuellp19_6 with
          | zero => intros; omega
          | succ fuellp19_6 ihlp19_6 =>
            intro z3 c5 hv19_0 hf7
            refine J_iload (pc := 19) dX8_comesNow_19 rfl ?_
            refine J_bipush (pc := 21) (v := nI 6) dX8_comesNow_21 (by decide) ?_
            refine J_icmp_geN (pc := 23) (tgt := 85) dX8_comesNow_23 (by decide) (by omega) (by omega) (fun ht8 => ?_) (fun hf9 => ?_)
            · refine J_iincN (pc := 85) (b := 1) dX8_comesNow_85 rfl (by decide) (by decide) rfl ?_
              show J X mX8_comesNow d kc ks 88 [some (.ref 19), some (.int (nI s)), some (.int (nI a)), some (.int z3), some (.int (nI (c4 + 1))), some (.int (nI c5)), none] [] w _
              refine J_goto (pc := 88) (tgt := 7) dX8_comesNow_88 (by decide) ?_
              exact J_sub (L' := [some (.ref 19), some (.int (nI s)), some (.int (nI a)), some (.int z3), some (.int (nI (c4 + 1))), none, none]) ⟨rfl, ⟨rfl, ⟨rfl, ⟨rfl, ⟨rfl, trivial⟩⟩⟩⟩⟩ (ihlp7_2 z3 (c4 + 1) (by first | assumption | omega) (by omega))
            · refine J_iload_n (pc := 26) dX8_comesNow_26 rfl rfl ?_
              refine J_iload (pc := 27) dX8_comesNow_27 rfl ?_
              refine J_ishrN (pc := 29) dX8_comesNow_29 (by omega) (by omega) ?_
              refine J_iconst (pc := 30) (v := nI 1) dX8_comesNow_30 (by decide) ?_
              have hm10 := Nat.mod_lt (s / 2 ^ c5) (show 0 < 2 ^ 1 by decide)
              have hm11 := Nat.div_le_self s (2 ^ c5)
              refine J_iandN (pc := 31) 1 dX8_comesNow_31 (by omega) (by decide) ?_
              refine J_if_neN (pc := 32) (tgt := 38) dX8_comesNow_32 (by decide) (by omega) (fun ht12 => ?_) (fun hf13 => ?_)
              · refine J_iconst (pc := 38) (v := nI 0) dX8_comesNow_38 (by decide) ?_
                refine J_istore (pc := 39) dX8_comesNow_39 (by decide) rfl ?_
                show J X mX8_comesNow d kc ks 41 [some (.ref 19), some (.int (nI s)), some (.int (nI a)), some (.int z3), some (.int (nI c4)), some (.int (nI c5)), some (.int (nI 0))] [] w _
                have lp41_14 : ∀ (fuel : Nat) (z3 : Int32) (c6 : Nat), (c6 ≤ n) → (n - c6 < fuel) → J X mX8_comesNow d kc ks 41 [some (.ref 19), some (.int (nI s)), some (.int (nI a)), some (.int z3), some (.int (nI c4)), some (.int (nI c5)), some (.int (nI c6))] [] w (pI (fun _ => True) (fun w' => w' = w)) := by
                  intro fuellp41_14
                  induction fuellp41_14 with
                  | zero => intros; omega
                  | succ fuellp41_14 ihlp41_14 =>
                    intro z3 c6 hv41_0 hf15
                    refine J_iload (pc := 41) dX8_comesNow_41 rfl ?_
                    refine J_aload_n (pc := 43) dX8_comesNow_43 rfl rfl rfl ?_
                    refine J_get (pc := 44) (k := 0) dX8_comesNow_44 kC9 (by decide) ff_X8_7 h19 rfl ?_
                    refine J_icmp_geN (pc := 47) (tgt := 79) dX8_comesNow_47 (by decide) (by omega) (by omega) (fun ht16 => ?_) (fun hf17 => ?_)
                    · refine J_iincN (pc := 79) (b := 1) dX8_comesNow_79 rfl (by decide) (by decide) rfl ?_
                      show J X mX8_comesNow d kc ks 82 [some (.ref 19), some (.int (nI s)), some (.int (nI a)), some (.int z3), some (.int (nI c4)), some (.int (nI (c5 + 1))), some (.int (nI c6))] [] w _
                      refine J_goto (pc := 82) (tgt := 19) dX8_comesNow_82 (by decide) ?_
                      exact J_sub (L' := [some (.ref 19), some (.int (nI s)), some (.int (nI a)), some (.int z3), some (.int (nI c4)), some (.int (nI (c5 + 1))), none]) ⟨rfl, ⟨rfl, ⟨rfl, ⟨rfl, ⟨rfl, ⟨rfl, trivial⟩⟩⟩⟩⟩⟩ (ihlp19_6 z3 (c5 + 1) (by first | assumption | omega) (by omega))
                    · refine J_iload_n (pc := 50) dX8_comesNow_50 rfl rfl ?_
                      refine J_iload (pc := 51) dX8_comesNow_51 rfl ?_
                      refine J_ishr (pc := 53) dX8_comesNow_53 (J_absI fun x18 => ?_)
                      refine J_iconst (pc := 54) (v := nI 1) dX8_comesNow_54 (by decide) ?_
                      refine J_iand (pc := 55) dX8_comesNow_55 (J_andE 1 1 (by decide) fun k19 hk19 => ?_)
                      refine J_iconst (pc := 56) (v := nI 1) dX8_comesNow_56 (by decide) ?_
                      refine J_icmp_neN (pc := 57) (tgt := 73) dX8_comesNow_57 (by decide) (by omega) (by omega) (fun ht20 => ?_) (fun hf21 => ?_)
                      · refine J_iincN (pc := 73) (b := 1) dX8_comesNow_73 rfl (by decide) (by decide) rfl ?_
                        show J X mX8_comesNow d kc ks 76 [some (.ref 19), some (.int (nI s)), some (.int (nI a)), some (.int z3), some (.int (nI c4)), some (.int (nI c5)), some (.int (nI (c6 + 1)))] [] w _
                        refine J_goto (pc := 76) (tgt := 41) dX8_comesNow_76 (by decide) ?_
                        exact J_sub (L' := [some (.ref 19), some (.int (nI s)), some (.int (nI a)), some (.int z3), some (.int (nI c4)), some (.int (nI c5)), some (.int (nI (c6 + 1)))]) ⟨rfl, ⟨rfl, ⟨rfl, ⟨rfl, ⟨rfl, ⟨rfl, ⟨rfl, trivial⟩⟩⟩⟩⟩⟩⟩ (ihlp41_14 z3 (c6 + 1) (by first | assumption | omega) (by omega))
                      · refine J_iload_n (pc := 60) dX8_comesNow_60 rfl rfl ?_
                        refine J_iconst (pc := 61) (v := nI 1) dX8_comesNow_61 (by decide) ?_
                        refine J_aload_n (pc := 62) dX8_comesNow_62 rfl rfl rfl ?_
                        refine J_iload (pc := 63) dX8_comesNow_63 rfl ?_
                        refine J_iload (pc := 65) dX8_comesNow_65 rfl ?_
                        refine J_callV0 (pc := 67) (M := mX8_comesNow) (as := [.int (nI c5), .int (nI c6)]) dX8_comesNow_67 fw_X8_at fl_X8_82 fm_X8_at fe_X8_at h19 (by decide) rfl rfl rfl (c_X8_at hs (d := d - 1) (Nat.le_trans (by decide) hdm) (w := w) (n := n) (mv := mv) (rw := rw) (nx := nx) (b := b) (bt := bt) (kn := kn) (en := en) (dn := dn) (rf := rf) (kk := kk) (th := th) ⟨h19, h20, h21, h22, hbb, hbl, hb3⟩ hn1 hn2 gm gr gx c5 c6 (by first | assumption | omega) (by first | assumption | omega) (kc := 0) (ks := 0)) hdp (st := [.int (nI 1), .int z3]) (Nat.le_of_ble_eq_true rfl) rfl (kr_P fun v22 hv22 => ?_) kx_I
                        subst hv22
                        have hq23 := gm (c5 * 7 + c6)
                        refine J_ishl (pc := 70) dX8_comesNow_70 (J_absI fun x24 => ?_)
                        refine J_ior (pc := 71) dX8_comesNow_71 (J_absI fun x25 => ?_)
                        refine J_istore_n (pc := 72) dX8_comesNow_72 rfl (by decide) rfl ?_
                        show J X mX8_comesNow d kc ks 73 [some (.ref 19), some (.int (nI s)), some (.int (nI a)), some (.int x25), some (.int (nI c4)), some (.int (nI c5)), some (.int (nI c6))] [] w _
                        refine J_iincN (pc := 73) (b := 1) dX8_comesNow_73 rfl (by decide) (by decide) rfl ?_
                        show J X mX8_comesNow d kc ks 76 [some (.ref 19), some (.int (nI s)), some (.int (nI a)), some (.int x25), some (.int (nI c4)), some (.int (nI c5)), some (.int (nI (c6 + 1)))] [] w _
                        refine J_goto (pc := 76) (tgt := 41) dX8_comesNow_76 (by decide) ?_
                        exact J_sub (L' := [some (.ref 19), some (.int (nI s)), some (.int (nI a)), some (.int x25), some (.int (nI c4)), some (.int (nI c5)), some (.int (nI (c6 + 1)))]) ⟨rfl, ⟨rfl, ⟨rfl, ⟨rfl, ⟨rfl, ⟨rfl, ⟨rfl, trivial⟩⟩⟩⟩⟩⟩⟩ (ihlp41_14 x25 (c6 + 1) (by first | assumption | omega) (by omega))
                exact J_sub (L' := [some (.ref 19), some (.int (nI s)), some (.int (nI a)), some (.int z3), some (.int (nI c4)), some (.int (nI c5)), some (.int (nI 0))]) ⟨rfl, ⟨rfl, ⟨rfl, ⟨rfl, ⟨rfl, ⟨rfl, ⟨rfl, trivial⟩⟩⟩⟩⟩⟩⟩ (lp41_14 _ z3 0 (by first | assumption | omega) (Nat.lt_succ_self _))
              · refine J_goto (pc := 35) (tgt := 79) dX8_comesNow_35 (by decide) ?_
                refine J_iincN (pc := 79) (b := 1) dX8_comesNow_79 rfl (by decide) (by decide) rfl ?_
                show J X mX8_comesNow d kc ks 82 [some (.ref 19), some (.int (nI s)), some (.int (nI a)), some (.int z3), some (.int (nI c4)), some (.int (nI (c5 + 1))), none] [] w _
                refine J_goto (pc := 82) (tgt := 19) dX8_comesNow_82 (by decide) ?_
                exact J_sub (L' := [some (.ref 19), some (.int (nI s)), some (.int (nI a)), some (.int z3), some (.int (nI c4)), some (.int (nI (c5 + 1))), none]) ⟨rfl, ⟨rfl, ⟨rfl, ⟨rfl, ⟨rfl, ⟨rfl, trivial⟩⟩⟩⟩⟩⟩ (ihlp19_6 z3 (c5 + 1) (by first | assumption | omega) (by omega))
        exact J_sub (L' := [some (.ref 19), some (.int (nI s)), some (.int (nI a)), some (.int z3), some (.int (nI c4)), some (.int (nI 0)), none]) ⟨rfl, ⟨rfl, ⟨rfl, ⟨rfl, ⟨rfl, ⟨rfl, trivial⟩⟩⟩⟩⟩⟩ (lp19_6 _ z3 0 (by first | assumption | omega) (Nat.lt_succ_self _))
  exact J_sub (L' := [some (.ref 19), some (.int (nI s)), some (.int (nI a)), some (.int x1), some (.int (nI 0)), none, none]) ⟨rfl, ⟨rfl, ⟨rfl, ⟨rfl, ⟨rfl, trivial⟩⟩⟩⟩⟩ (lp7_2 _ x1 0 (by first | assumption | omega) (Nat.lt_succ_self _))
set_option maxRecDepth 100000 in
set_option maxHeartbeats 40000000 in
theorem c_X8_comes {X : jX} (hs : X.1.stackTraces = false) {d : Nat} (hd : 2 ≤ d) {n : Nat} {mv rw nx : Nat → Nat} {b : Nat} {bt : List Int32} {kn en dn rf kk th : Int32} {w : List jC} (hR : RM n mv rw nx b bt kn en dn rf kk th w) (hn1 : 2 ≤ n) (hn2 : n ≤ 7) (gm : ∀ i, mv i < 7) (gr : ∀ i, rw i < 7) (gx : ∀ i, nx i < 7) (s : Int32) (a : Int32) {kc ks : Nat} : jMet X mX8_comes d kc ks [.ref 19, .int s, .int a] w (pI (fun _ => True) (fun w' => ∃ (th' : Int32), RM n mv rw nx b bt kn en dn rf kk th' w' ∧ FR b b w w')) := by
  refine jMet_of hs (by decide +kernel) (Nat.le_of_ble_eq_true rfl) (L := [some (.ref 19), some (.int s), some (.int a)]) rfl ?_
  have hdm : 1 ≤ d - 1 := by omega
  have hdp : d - 1 + 1 ≤ d := by omega
  have hfc := fc_7 hn2
  have hfp := fc_pos n
  obtain ⟨h19, h20, h21, h22, hbb, hbl, hb3⟩ := hR
  have hF : FR b b w w := FR.rf
  refine J_aload_n (pc := 0) dX8_comes_0 rfl rfl rfl ?_
  refine J_aload_n (pc := 1) dX8_comes_1 rfl rfl rfl ?_
  refine J_iload_n (pc := 2) dX8_comes_2 rfl rfl ?_
  refine J_callV0 (pc := 3) (M := mX8_comes) (as := [.int a]) dX8_comes_3 fw_X8_isPoint fl_X8_118 fm_X8_isPoint fe_X8_isPoint h19 (by decide) rfl rfl rfl (c_X8_isPoint hs (d := d - 1) (Nat.le_trans (by decide) hdm) (w := w) (n := n) (mv := mv) (rw := rw) (nx := nx) (b := b) (bt := bt) (kn := kn) (en := en) (dn := dn) (rf := rf) (kk := kk) (th := th) ⟨h19, h20, h21, h22, hbb, hbl, hb3⟩ hn1 hn2 gm gr gx a (kc := 0) (ks := 0)) hdp (st := [.ref 19]) (Nat.le_of_ble_eq_true rfl) rfl (kr_P fun v1 hv1 => ?_) kx_I
  rcases hv1 with ⟨rfl, hk1_0⟩ | ⟨q1, rfl, hk1_0, rfl⟩
  · refine J_if_neN (pc := 6) (tgt := 13) dX8_comes_6 (by decide) (by decide) (fun h => absurd h (by decide)) (fun _ => ?_)
    refine J_iconst (pc := 9) (v := nI 1) dX8_comes_9 (by decide) ?_
    refine J_goto (pc := 10) (tgt := 14) dX8_comes_10 (by decide) ?_
    refine J_iload_n (pc := 14) dX8_comes_14 rfl rfl ?_
    refine J_callS0 (pc := 15) (M := mX8_comes) (as := [.int s]) dX8_comes_15 fw_X8_isSet fl_X8_134 fs_X8_isSet rfl (c_X8_isSet hs (d := d - 1) (Nat.le_trans (by decide) hdm) (w := w) s (kc := 0) (ks := 0)) hdp (st := [.int (nI 1), .ref 19]) (Nat.le_of_ble_eq_true rfl) rfl (kr_P fun v2 hv2 => ?_) kx_I
    rcases hv2 with ⟨rfl, hk2_0⟩ | ⟨q2, rfl, hk2_0, rfl⟩
    · refine J_if_neN (pc := 18) (tgt := 25) dX8_comes_18 (by decide) (by decide) (fun h => absurd h (by decide)) (fun _ => ?_)
      refine J_iconst (pc := 21) (v := nI 1) dX8_comes_21 (by decide) ?_
      refine J_goto (pc := 22) (tgt := 26) dX8_comes_22 (by decide) ?_
      refine J_callV0 (pc := 26) (M := mX8_comes) (as := [.int (nI 1), .int (nI 1)]) dX8_comes_26 fw_X8_isThrown fl_X8_35 fm_X8_isThrown fe_X8_isThrown h19 (by decide) rfl rfl rfl (c_X8_isThrown hs (d := d - 1) (Nat.le_trans (by decide) hdm) (w := w) (n := n) (mv := mv) (rw := rw) (nx := nx) (b := b) (bt := bt) (kn := kn) (en := en) (dn := dn) (rf := rf) (kk := kk) (th := th) ⟨h19, h20, h21, h22, hbb, hbl, hb3⟩ hn1 hn2 gm gr gx 1 1 (by first | assumption | omega) (by first | assumption | omega) (kc := 0) (ks := 0)) hdp (st := []) (Nat.le_of_ble_eq_true rfl) rfl (kr_I fun v3 w3 hv3 hw3 => ?_) kx_I
      obtain ⟨hR3, hFc3⟩ := hw3
      obtain ⟨h19_3, h20_3, h21_3, h22_3, hbb_3, hbl_3, hb3_3⟩ := hR3
      have hF3 := hF.tr hFc3
      subst hv3
      show J X mX8_comes d kc ks 29 [some (.ref 19), some (.int s), some (.int a)] [.int (nI 1)] w3 _
      refine J_if_eqN (pc := 29) (tgt := 36) dX8_comes_29 (by decide) (by decide) (fun h => absurd h (by decide)) (fun _ => ?_)
      refine J_iconst (pc := 32) (v := nI 0) dX8_comes_32 (by decide) ?_
      refine J_goto (pc := 33) (tgt := 42) dX8_comes_33 (by decide) ?_
      exact J_iret (pc := 42) dX8_comes_42 rfl ⟨trivial, ⟨nI (tW 1 1), ⟨h19_3, h20_3, h21_3, h22_3, hbb_3, hbl_3, hb3_3⟩, hF3⟩⟩
    · refine J_if_neN (pc := 18) (tgt := 25) dX8_comes_18 (by decide) (by decide) (fun _ => ?_) (fun h => absurd h (by decide))
      refine J_iconst (pc := 25) (v := nI 0) dX8_comes_25 (by decide) ?_
      refine J_callV0 (pc := 26) (M := mX8_comes) (as := [.int (nI 1), .int (nI 0)]) dX8_comes_26 fw_X8_isThrown fl_X8_35 fm_X8_isThrown fe_X8_isThrown h19 (by decide) rfl rfl rfl (c_X8_isThrown hs (d := d - 1) (Nat.le_trans (by decide) hdm) (w := w) (n := n) (mv := mv) (rw := rw) (nx := nx) (b := b) (bt := bt) (kn := kn) (en := en) (dn := dn) (rf := rf) (kk := kk) (th := th) ⟨h19, h20, h21, h22, hbb, hbl, hb3⟩ hn1 hn2 gm gr gx 1 0 (by first | assumption | omega) (by first | assumption | omega) (kc := 0) (ks := 0)) hdp (st := []) (Nat.le_of_ble_eq_true rfl) rfl (kr_I fun v4 w4 hv4 hw4 => ?_) kx_I
      obtain ⟨hR4, hFc4⟩ := hw4
      obtain ⟨h19_4, h20_4, h21_4, h22_4, hbb_4, hbl_4, hb3_4⟩ := hR4
      have hF4 := hF.tr hFc4
      subst hv4
      show J X mX8_comes d kc ks 29 [some (.ref 19), some (.int (nI q2)), some (.int a)] [.int (nI 1)] w4 _
      refine J_if_eqN (pc := 29) (tgt := 36) dX8_comes_29 (by decide) (by decide) (fun h => absurd h (by decide)) (fun _ => ?_)
      refine J_iconst (pc := 32) (v := nI 0) dX8_comes_32 (by decide) ?_
      refine J_goto (pc := 33) (tgt := 42) dX8_comes_33 (by decide) ?_
      exact J_iret (pc := 42) dX8_comes_42 rfl ⟨trivial, ⟨nI (tW 1 0), ⟨h19_4, h20_4, h21_4, h22_4, hbb_4, hbl_4, hb3_4⟩, hF4⟩⟩
  · refine J_if_neN (pc := 6) (tgt := 13) dX8_comes_6 (by decide) (by decide) (fun _ => ?_) (fun h => absurd h (by decide))
    refine J_iconst (pc := 13) (v := nI 0) dX8_comes_13 (by decide) ?_
    refine J_iload_n (pc := 14) dX8_comes_14 rfl rfl ?_
    refine J_callS0 (pc := 15) (M := mX8_comes) (as := [.int s]) dX8_comes_15 fw_X8_isSet fl_X8_134 fs_X8_isSet rfl (c_X8_isSet hs (d := d - 1) (Nat.le_trans (by decide) hdm) (w := w) s (kc := 0) (ks := 0)) hdp (st := [.int (nI 0), .ref 19]) (Nat.le_of_ble_eq_true rfl) rfl (kr_P fun v5 hv5 => ?_) kx_I
    rcases hv5 with ⟨rfl, hk5_0⟩ | ⟨q5, rfl, hk5_0, rfl⟩
    · refine J_if_neN (pc := 18) (tgt := 25) dX8_comes_18 (by decide) (by decide) (fun h => absurd h (by decide)) (fun _ => ?_)
      refine J_iconst (pc := 21) (v := nI 1) dX8_comes_21 (by decide) ?_
      refine J_goto (pc := 22) (tgt := 26) dX8_comes_22 (by decide) ?_
      refine J_callV0 (pc := 26) (M := mX8_comes) (as := [.int (nI 0), .int (nI 1)]) dX8_comes_26 fw_X8_isThrown fl_X8_35 fm_X8_isThrown fe_X8_isThrown h19 (by decide) rfl rfl rfl (c_X8_isThrown hs (d := d - 1) (Nat.le_trans (by decide) hdm) (w := w) (n := n) (mv := mv) (rw := rw) (nx := nx) (b := b) (bt := bt) (kn := kn) (en := en) (dn := dn) (rf := rf) (kk := kk) (th := th) ⟨h19, h20, h21, h22, hbb, hbl, hb3⟩ hn1 hn2 gm gr gx 0 1 (by first | assumption | omega) (by first | assumption | omega) (kc := 0) (ks := 0)) hdp (st := []) (Nat.le_of_ble_eq_true rfl) rfl (kr_I fun v6 w6 hv6 hw6 => ?_) kx_I
      obtain ⟨hR6, hFc6⟩ := hw6
      obtain ⟨h19_6, h20_6, h21_6, h22_6, hbb_6, hbl_6, hb3_6⟩ := hR6
      have hF6 := hF.tr hFc6
      subst hv6
      show J X mX8_comes d kc ks 29 [some (.ref 19), some (.int s), some (.int (nI q1))] [.int (nI 1)] w6 _
      refine J_if_eqN (pc := 29) (tgt := 36) dX8_comes_29 (by decide) (by decide) (fun h => absurd h (by decide)) (fun _ => ?_)
      refine J_iconst (pc := 32) (v := nI 0) dX8_comes_32 (by decide) ?_
      refine J_goto (pc := 33) (tgt := 42) dX8_comes_33 (by decide) ?_
      exact J_iret (pc := 42) dX8_comes_42 rfl ⟨trivial, ⟨nI (tW 0 1), ⟨h19_6, h20_6, h21_6, h22_6, hbb_6, hbl_6, hb3_6⟩, hF6⟩⟩
    · refine J_if_neN (pc := 18) (tgt := 25) dX8_comes_18 (by decide) (by decide) (fun _ => ?_) (fun h => absurd h (by decide))
      refine J_iconst (pc := 25) (v := nI 0) dX8_comes_25 (by decide) ?_
      refine J_callV0 (pc := 26) (M := mX8_comes) (as := [.int (nI 0), .int (nI 0)]) dX8_comes_26 fw_X8_isThrown fl_X8_35 fm_X8_isThrown fe_X8_isThrown h19 (by decide) rfl rfl rfl (c_X8_isThrown hs (d := d - 1) (Nat.le_trans (by decide) hdm) (w := w) (n := n) (mv := mv) (rw := rw) (nx := nx) (b := b) (bt := bt) (kn := kn) (en := en) (dn := dn) (rf := rf) (kk := kk) (th := th) ⟨h19, h20, h21, h22, hbb, hbl, hb3⟩ hn1 hn2 gm gr gx 0 0 (by first | assumption | omega) (by first | assumption | omega) (kc := 0) (ks := 0)) hdp (st := []) (Nat.le_of_ble_eq_true rfl) rfl (kr_I fun v7 w7 hv7 hw7 => ?_) kx_I
      obtain ⟨hR7, hFc7⟩ := hw7
      obtain ⟨h19_7, h20_7, h21_7, h22_7, hbb_7, hbl_7, hb3_7⟩ := hR7
      have hF7 := hF.tr hFc7
      subst hv7
      show J X mX8_comes d kc ks 29 [some (.ref 19), some (.int (nI q5)), some (.int (nI q1))] [.int (nI 0)] w7 _
      refine J_if_eqN (pc := 29) (tgt := 36) dX8_comes_29 (by decide) (by decide) (fun _ => ?_) (fun h => absurd h (by decide))
      refine J_aload_n (pc := 36) dX8_comes_36 rfl rfl rfl ?_
      refine J_iload_n (pc := 37) dX8_comes_37 rfl rfl ?_
      refine J_iload_n (pc := 38) dX8_comes_38 rfl rfl ?_
      refine J_callV0 (pc := 39) (M := mX8_comes) (as := [.int (nI q5), .int (nI q1)]) dX8_comes_39 fw_X8_comesNow fl_X8_188 fm_X8_comesNow fe_X8_comesNow h19_7 (by decide) rfl rfl rfl (c_X8_comesNow hs (d := d - 1) (Nat.le_trans (by decide) hdm) (w := w7) (n := n) (mv := mv) (rw := rw) (nx := nx) (b := b) (bt := bt) (kn := kn) (en := en) (dn := dn) (rf := rf) (kk := kk) (th := nI (tW 0 0)) ⟨h19_7, h20_7, h21_7, h22_7, hbb_7, hbl_7, hb3_7⟩ hn1 hn2 gm gr gx q5 q1 (by first | assumption | omega) (by first | assumption | omega) (kc := 0) (ks := 0)) hdp (st := []) (Nat.le_of_ble_eq_true rfl) rfl (kr_P fun v8 hv8 => ?_) kx_I
      exact J_iret (pc := 42) dX8_comes_42 rfl ⟨trivial, ⟨nI (tW 0 0), ⟨h19_7, h20_7, h21_7, h22_7, hbb_7, hbl_7, hb3_7⟩, hF7⟩⟩
set_option maxRecDepth 100000 in
set_option maxHeartbeats 40000000 in
theorem c_X8_piecesNow {X : jX} (hs : X.1.stackTraces = false) {d : Nat} (hd : 2 ≤ d) {n : Nat} {mv rw nx : Nat → Nat} {b : Nat} {bt : List Int32} {kn en dn rf kk th : Int32} {w : List jC} (hR : RM n mv rw nx b bt kn en dn rf kk th w) (hn1 : 2 ≤ n) (hn2 : n ≤ 7) (gm : ∀ i, mv i < 7) (gr : ∀ i, rw i < 7) (gx : ∀ i, nx i < 7) (s : Nat) (hy0 : s < 64) {kc ks : Nat} : jMet X mX8_piecesNow d kc ks [.ref 19, .int (nI s)] w (pI (fun v => ∃ k : Nat, v = nI k ∧ k ≤ n) (fun w' => w' = w)) := by
  refine jMet_of hs (by decide +kernel) (Nat.le_of_ble_eq_true rfl) (L := [some (.ref 19), some (.int (nI s)), none, none]) rfl ?_
  have hdm : 1 ≤ d - 1 := by omega
  have hdp : d - 1 + 1 ≤ d := by omega
  have hfc := fc_7 hn2
  have hfp := fc_pos n
  obtain ⟨h19, h20, h21, h22, hbb, hbl, hb3⟩ := hR
  have hF : FR b b w w := FR.rf
  refine J_iconst (pc := 0) (v := nI 0) dX8_piecesNow_0 (by decide) ?_
  refine J_istore_n (pc := 1) dX8_piecesNow_1 rfl (by decide) rfl ?_
  show J X mX8_piecesNow d kc ks 2 [some (.ref 19), some (.int (nI s)), some (.int (nI 0)), none] [] w _
  refine J_iconst (pc := 2) (v := nI 0) dX8_piecesNow_2 (by decide) ?_
  refine J_istore_n (pc := 3) dX8_piecesNow_3 rfl (by decide) rfl ?_
  show J X mX8_piecesNow d kc ks 4 [some (.ref 19), some (.int (nI s)), some (.int (nI 0)), some (.int (nI 0))] [] w _
  have lp4_1 : ∀ (fuel : Nat) (y2 : Nat) (c3 : Nat), (y2 ≤ c3) → (c3 ≤ n) → (n - c3 < fuel) → J X mX8_piecesNow d kc ks 4 [some (.ref 19), some (.int (nI s)), some (.int (nI y2)), some (.int (nI c3))] [] w (pI (fun v => ∃ k : Nat, v = nI k ∧ k ≤ n) (fun w' => w' = w)) := by
    intro fuellp4_1
    induction fuellp4_1 with
    | zero => intros; omega
    | succ fuellp4_1 ihlp4_1 =>
      intro y2 c3 hv4_0 hv4_1 hf2
      refine J_iload_n (pc := 4) dX8_piecesNow_4 rfl rfl ?_
      refine J_aload_n (pc := 5) dX8_piecesNow_5 rfl rfl rfl ?_
      refine J_get (pc := 6) (k := 0) dX8_piecesNow_6 kC9 (by decide) ff_X8_7 h19 rfl ?_
      refine J_icmp_geN (pc := 9) (tgt := 41) dX8_piecesNow_9 (by decide) (by omega) (by omega) (fun ht3 => ?_) (fun hf4 => ?_)
      · refine J_iload_n (pc := 41) dX8_piecesNow_41 rfl rfl ?_
        exact J_iret (pc := 42) dX8_piecesNow_42 rfl ⟨⟨y2, rfl, by omega⟩, rfl⟩
      · refine J_iload_n (pc := 12) dX8_piecesNow_12 rfl rfl ?_
        refine J_aload_n (pc := 13) dX8_piecesNow_13 rfl rfl rfl ?_
        refine J_iload_n (pc := 14) dX8_piecesNow_14 rfl rfl ?_
        refine J_iload_n (pc := 15) dX8_piecesNow_15 rfl rfl ?_
        refine J_callV0 (pc := 16) (M := mX8_piecesNow) (as := [.int (nI s), .int (nI c3)]) dX8_piecesNow_16 fw_X8_comesNow fl_X8_188 fm_X8_comesNow fe_X8_comesNow h19 (by decide) rfl rfl rfl (c_X8_comesNow hs (d := d - 1) (Nat.le_trans (by decide) hdm) (w := w) (n := n) (mv := mv) (rw := rw) (nx := nx) (b := b) (bt := bt) (kn := kn) (en := en) (dn := dn) (rf := rf) (kk := kk) (th := th) ⟨h19, h20, h21, h22, hbb, hbl, hb3⟩ hn1 hn2 gm gr gx s c3 (by first | assumption | omega) (by first | assumption | omega) (kc := 0) (ks := 0)) hdp (st := [.int (nI y2)]) (Nat.le_of_ble_eq_true rfl) rfl (kr_P fun v5 hv5 => ?_) kx_I
        refine J_iconst (pc := 19) (v := nI 1) dX8_piecesNow_19 (by decide) ?_
        refine J_iload_n (pc := 20) dX8_piecesNow_20 rfl rfl ?_
        refine J_ishl (pc := 21) dX8_piecesNow_21 (J_absI fun x6 => ?_)
        refine J_iconst (pc := 22) (v := nI 1) dX8_piecesNow_22 (by decide) ?_
        refine J_isub (pc := 23) dX8_piecesNow_23 (J_absI fun x7 => ?_)
        refine J_iand (pc := 24) dX8_piecesNow_24 (J_absI fun x8 => ?_)
        refine J_if_ne (pc := 25) (tgt := 32) dX8_piecesNow_25 (by decide) (fun ht9 => ?_) (fun hf10 => ?_)
        · refine J_iconst (pc := 32) (v := nI 0) dX8_piecesNow_32 (by decide) ?_
          refine J_iaddN (pc := 33) dX8_piecesNow_33 ?_
          refine J_istore_n (pc := 34) dX8_piecesNow_34 rfl (by decide) rfl ?_
          show J X mX8_piecesNow d kc ks 35 [some (.ref 19), some (.int (nI s)), some (.int (nI (y2 + 0))), some (.int (nI c3))] [] w _
          refine J_iincN (pc := 35) (b := 1) dX8_piecesNow_35 rfl (by decide) (by decide) rfl ?_
          show J X mX8_piecesNow d kc ks 38 [some (.ref 19), some (.int (nI s)), some (.int (nI (y2 + 0))), some (.int (nI (c3 + 1)))] [] w _
          refine J_goto (pc := 38) (tgt := 4) dX8_piecesNow_38 (by decide) ?_
          exact J_sub (L' := [some (.ref 19), some (.int (nI s)), some (.int (nI (y2 + 0))), some (.int (nI (c3 + 1)))]) ⟨rfl, ⟨rfl, ⟨rfl, ⟨rfl, trivial⟩⟩⟩⟩ (ihlp4_1 (y2 + 0) (c3 + 1) (by first | assumption | omega) (by first | assumption | omega) (by omega))
        · refine J_iconst (pc := 28) (v := nI 1) dX8_piecesNow_28 (by decide) ?_
          refine J_goto (pc := 29) (tgt := 33) dX8_piecesNow_29 (by decide) ?_
          refine J_iaddN (pc := 33) dX8_piecesNow_33 ?_
          refine J_istore_n (pc := 34) dX8_piecesNow_34 rfl (by decide) rfl ?_
          show J X mX8_piecesNow d kc ks 35 [some (.ref 19), some (.int (nI s)), some (.int (nI (y2 + 1))), some (.int (nI c3))] [] w _
          refine J_iincN (pc := 35) (b := 1) dX8_piecesNow_35 rfl (by decide) (by decide) rfl ?_
          show J X mX8_piecesNow d kc ks 38 [some (.ref 19), some (.int (nI s)), some (.int (nI (y2 + 1))), some (.int (nI (c3 + 1)))] [] w _
          refine J_goto (pc := 38) (tgt := 4) dX8_piecesNow_38 (by decide) ?_
          exact J_sub (L' := [some (.ref 19), some (.int (nI s)), some (.int (nI (y2 + 1))), some (.int (nI (c3 + 1)))]) ⟨rfl, ⟨rfl, ⟨rfl, ⟨rfl, trivial⟩⟩⟩⟩ (ihlp4_1 (y2 + 1) (c3 + 1) (by first | assumption | omega) (by first | assumption | omega) (by omega))
  exact J_sub (L' := [some (.ref 19), some (.int (nI s)), some (.int (nI 0)), some (.int (nI 0))]) ⟨rfl, ⟨rfl, ⟨rfl, ⟨rfl, trivial⟩⟩⟩⟩ (lp4_1 _ 0 0 (by first | assumption | omega) (by first | assumption | omega) (Nat.lt_succ_self _))
set_option maxRecDepth 100000 in
set_option maxHeartbeats 40000000 in
theorem c_X8_pieces {X : jX} (hs : X.1.stackTraces = false) {d : Nat} (hd : 3 ≤ d) {n : Nat} {mv rw nx : Nat → Nat} {b : Nat} {bt : List Int32} {kn en dn rf kk th : Int32} {w : List jC} (hR : RM n mv rw nx b bt kn en dn rf kk th w) (hn1 : 2 ≤ n) (hn2 : n ≤ 7) (gm : ∀ i, mv i < 7) (gr : ∀ i, rw i < 7) (gx : ∀ i, nx i < 7) (s : Int32) {kc ks : Nat} : jMet X mX8_pieces d kc ks [.ref 19, .int s] w (pI (fun _ => True) (fun w' => ∃ (th' : Int32), RM n mv rw nx b bt kn en dn rf kk th' w' ∧ FR b b w w')) := by
  refine jMet_of hs (by decide +kernel) (Nat.le_of_ble_eq_true rfl) (L := [some (.ref 19), some (.int s)]) rfl ?_
  have hdm : 2 ≤ d - 1 := by omega
  have hdp : d - 1 + 1 ≤ d := by omega
  have hfc := fc_7 hn2
  have hfp := fc_pos n
  obtain ⟨h19, h20, h21, h22, hbb, hbl, hb3⟩ := hR
  have hF : FR b b w w := FR.rf
  refine J_aload_n (pc := 0) dX8_pieces_0 rfl rfl rfl ?_
  refine J_iload_n (pc := 1) dX8_pieces_1 rfl rfl ?_
  refine J_callS0 (pc := 2) (M := mX8_pieces) (as := [.int s]) dX8_pieces_2 fw_X8_isSet fl_X8_134 fs_X8_isSet rfl (c_X8_isSet hs (d := d - 1) (Nat.le_trans (by decide) hdm) (w := w) s (kc := 0) (ks := 0)) hdp (st := [.ref 19]) (Nat.le_of_ble_eq_true rfl) rfl (kr_P fun v1 hv1 => ?_) kx_I
  rcases hv1 with ⟨rfl, hk1_0⟩ | ⟨q1, rfl, hk1_0, rfl⟩
  · refine J_if_neN (pc := 5) (tgt := 12) dX8_pieces_5 (by decide) (by decide) (fun h => absurd h (by decide)) (fun _ => ?_)
    refine J_iconst (pc := 8) (v := nI 1) dX8_pieces_8 (by decide) ?_
    refine J_goto (pc := 9) (tgt := 13) dX8_pieces_9 (by decide) ?_
    refine J_callV0 (pc := 13) (M := mX8_pieces) (as := [.int (nI 1)]) dX8_pieces_13 fw_X8_isThrown_ fl_X8_105 fm_X8_isThrown_ fe_X8_isThrown_ h19 (by decide) rfl rfl rfl (c_X8_isThrown_ hs (d := d - 1) (Nat.le_trans (by decide) hdm) (w := w) (n := n) (mv := mv) (rw := rw) (nx := nx) (b := b) (bt := bt) (kn := kn) (en := en) (dn := dn) (rf := rf) (kk := kk) (th := th) ⟨h19, h20, h21, h22, hbb, hbl, hb3⟩ hn1 hn2 gm gr gx 1 (by first | assumption | omega) (kc := 0) (ks := 0)) hdp (st := []) (Nat.le_of_ble_eq_true rfl) rfl (kr_I fun v2 w2 hv2 hw2 => ?_) kx_I
    obtain ⟨hR2, hFc2⟩ := hw2
    obtain ⟨h19_2, h20_2, h21_2, h22_2, hbb_2, hbl_2, hb3_2⟩ := hR2
    have hF2 := hF.tr hFc2
    subst hv2
    show J X mX8_pieces d kc ks 16 [some (.ref 19), some (.int s)] [.int (nI 1)] w2 _
    refine J_if_eqN (pc := 16) (tgt := 23) dX8_pieces_16 (by decide) (by decide) (fun h => absurd h (by decide)) (fun _ => ?_)
    refine J_iconst (pc := 19) (v := nI 0) dX8_pieces_19 (by decide) ?_
    refine J_goto (pc := 20) (tgt := 28) dX8_pieces_20 (by decide) ?_
    exact J_iret (pc := 28) dX8_pieces_28 rfl ⟨trivial, ⟨nI (tW 1 0), ⟨h19_2, h20_2, h21_2, h22_2, hbb_2, hbl_2, hb3_2⟩, hF2⟩⟩
  · refine J_if_neN (pc := 5) (tgt := 12) dX8_pieces_5 (by decide) (by decide) (fun _ => ?_) (fun h => absurd h (by decide))
    refine J_iconst (pc := 12) (v := nI 0) dX8_pieces_12 (by decide) ?_
    refine J_callV0 (pc := 13) (M := mX8_pieces) (as := [.int (nI 0)]) dX8_pieces_13 fw_X8_isThrown_ fl_X8_105 fm_X8_isThrown_ fe_X8_isThrown_ h19 (by decide) rfl rfl rfl (c_X8_isThrown_ hs (d := d - 1) (Nat.le_trans (by decide) hdm) (w := w) (n := n) (mv := mv) (rw := rw) (nx := nx) (b := b) (bt := bt) (kn := kn) (en := en) (dn := dn) (rf := rf) (kk := kk) (th := th) ⟨h19, h20, h21, h22, hbb, hbl, hb3⟩ hn1 hn2 gm gr gx 0 (by first | assumption | omega) (kc := 0) (ks := 0)) hdp (st := []) (Nat.le_of_ble_eq_true rfl) rfl (kr_I fun v3 w3 hv3 hw3 => ?_) kx_I
    obtain ⟨hR3, hFc3⟩ := hw3
    obtain ⟨h19_3, h20_3, h21_3, h22_3, hbb_3, hbl_3, hb3_3⟩ := hR3
    have hF3 := hF.tr hFc3
    subst hv3
    show J X mX8_pieces d kc ks 16 [some (.ref 19), some (.int (nI q1))] [.int (nI 0)] w3 _
    refine J_if_eqN (pc := 16) (tgt := 23) dX8_pieces_16 (by decide) (by decide) (fun _ => ?_) (fun h => absurd h (by decide))
    refine J_aload_n (pc := 23) dX8_pieces_23 rfl rfl rfl ?_
    refine J_iload_n (pc := 24) dX8_pieces_24 rfl rfl ?_
    refine J_callV0 (pc := 25) (M := mX8_pieces) (as := [.int (nI q1)]) dX8_pieces_25 fw_X8_piecesNow fl_X8_191 fm_X8_piecesNow fe_X8_piecesNow h19_3 (by decide) rfl rfl rfl (c_X8_piecesNow hs (d := d - 1) (Nat.le_trans (by decide) hdm) (w := w3) (n := n) (mv := mv) (rw := rw) (nx := nx) (b := b) (bt := bt) (kn := kn) (en := en) (dn := dn) (rf := rf) (kk := kk) (th := nI (tW 0 0)) ⟨h19_3, h20_3, h21_3, h22_3, hbb_3, hbl_3, hb3_3⟩ hn1 hn2 gm gr gx q1 (by first | assumption | omega) (kc := 0) (ks := 0)) hdp (st := []) (Nat.le_of_ble_eq_true rfl) rfl (kr_P fun v4 hv4 => ?_) kx_I
    obtain ⟨k4, rfl, hk4⟩ := hv4
    exact J_iret (pc := 28) dX8_pieces_28 rfl ⟨trivial, ⟨nI (tW 0 0), ⟨h19_3, h20_3, h21_3, h22_3, hbb_3, hbl_3, hb3_3⟩, hF3⟩⟩
