/-! contracts of the reference: rspec4 -/
set_option maxRecDepth 100000 in
set_option maxHeartbeats 40000000 in
theorem c_X8_coloured {X : jX} (hs : X.1.stackTraces = false) {d : Nat} (hd : 1 ≤ d) {n : Nat} {mv rw nx : Nat → Nat} {b : Nat} {bt : List Int32} {kn en dn rf kk th : Int32} {w : List jC} (hR : RM n mv rw nx b bt kn en dn rf kk th w) (hn1 : 2 ≤ n) (hn2 : n ≤ 7) (gm : ∀ i, mv i < 7) (gr : ∀ i, rw i < 7) (gx : ∀ i, nx i < 7) (a : Nat) (c : Nat) (e : Nat) (hy0 : c < 6) (hy1 : 1 ≤ e) (hy2 : e ≤ 3) (hy3 : PM n mv) (hy4 : a < 3000) {kc ks : Nat} : jMet X mX8_coloured d kc ks [.ref 19, .int (nI a), .int (nI c), .int (nI e)] w (pI (fun v => ∃ k : Nat, v = nI k ∧ k < e ^ n) (fun w' => ∃ (nx' : Nat → Nat), RM n mv rw nx' b bt kn en dn rf kk th w' ∧ FR b b w w' ∧ (∀ i, nx' i < 7))) := by
  refine jMet_of hs (by decide +kernel) (Nat.le_of_ble_eq_true rfl) (L := [some (.ref 19), some (.int (nI a)), some (.int (nI c)), some (.int (nI e)), none, none, none]) rfl ?_
  have hdm : 0 ≤ d - 1 := by omega
  have hdp : d - 1 + 1 ≤ d := by omega
  have hfc := fc_7 hn2
  have hfp := fc_pos n
  obtain ⟨h19, h20, h21, h22, hbb, hbl, hb3⟩ := hR
  have hF : FR b b w w := FR.rf
  have hpw := pw_le (e := e) (n := n) hy2 hn2
  refine J_iload_n (pc := 0) dX8_coloured_0 rfl rfl ?_
  refine J_istore (pc := 1) dX8_coloured_1 (by decide) rfl ?_
  show J X mX8_coloured d kc ks 3 [some (.ref 19), some (.int (nI a)), some (.int (nI c)), some (.int (nI e)), some (.int (nI a)), none, none] [] w _
  refine J_iconst (pc := 3) (v := nI 0) dX8_coloured_3 (by decide) ?_
  refine J_istore (pc := 4) dX8_coloured_4 (by decide) rfl ?_
  show J X mX8_coloured d kc ks 6 [some (.ref 19), some (.int (nI a)), some (.int (nI c)), some (.int (nI e)), some (.int (nI a)), some (.int (nI 0)), none] [] w _
  have lp6_1 : ∀ (fuel : Nat) (w2 : List jC) (nx_6 : Nat → Nat) (y4 : Nat) (c5 : Nat), (RM n mv rw nx_6 b bt kn en dn rf kk th w2) → (FR b b w w2) → (∀ i, nx_6 i < 7) → (∀ p, p < c5 → nx_6 (mv (c * 7 + p)) < e) → (c5 ≤ n) → (y4 < 3000) → (n - c5 < fuel) → J X mX8_coloured d kc ks 6 [some (.ref 19), some (.int (nI a)), some (.int (nI c)), some (.int (nI e)), some (.int (nI y4)), some (.int (nI c5)), none] [] w2 (pI (fun v => ∃ k : Nat, v = nI k ∧ k < e ^ n) (fun w' => ∃ (nx' : Nat → Nat), RM n mv rw nx' b bt kn en dn rf kk th w' ∧ FR b b w w' ∧ (∀ i, nx' i < 7))) := by
    intro fuellp6_1
    induction fuellp6_1 with
    | zero => intros; omega
    | succ fuellp6_1 ihlp6_1 =>
      intro w2 nx_6 y4 c5 hR3 hF4 gx5 hv6_0 hv6_1 hv6_2 hf6
      obtain ⟨h19_7, h20_7, h21_7, h22_7, hb_7, hbl_7, hb3_7⟩ := hR3
      refine J_iload (pc := 6) dX8_coloured_6 rfl ?_
      refine J_aload_n (pc := 8) dX8_coloured_8 rfl rfl rfl ?_
      refine J_get (pc := 9) (k := 0) dX8_coloured_9 kC9 (by decide) ff_X8_7 h19_7 rfl ?_
      refine J_icmp_geN (pc := 12) (tgt := 43) dX8_coloured_12 (by decide) (by omega) (by omega) (fun ht8 => ?_) (fun hf9 => ?_)
      · have hall := col_all (e := e) (hy3 c hy0) (g := nx_6) (fun p hp => hv6_0 p (by omega))
        refine J_iconst (pc := 43) (v := nI 0) dX8_coloured_43 (by decide) ?_
        refine J_istore (pc := 44) dX8_coloured_44 (by decide) rfl ?_
        show J X mX8_coloured d kc ks 46 [some (.ref 19), some (.int (nI a)), some (.int (nI c)), some (.int (nI e)), some (.int (nI y4)), some (.int (nI 0)), none] [] w2 _
        refine J_aload_n (pc := 46) dX8_coloured_46 rfl rfl rfl ?_
        refine J_get (pc := 47) (k := 0) dX8_coloured_47 kC9 (by decide) ff_X8_7 h19_7 rfl ?_
        refine J_iconst (pc := 50) (v := nI 1) dX8_coloured_50 (by decide) ?_
        refine J_isubM (pc := 51) dX8_coloured_51 ?_
        refine J_istore (pc := 52) dX8_coloured_52 (by decide) rfl ?_
        show J X mX8_coloured d kc ks 54 [some (.ref 19), some (.int (nI a)), some (.int (nI c)), some (.int (nI e)), some (.int (nI y4)), some (.int (nI 0)), some (.int (nI n + Int32.ofInt (-1)))] [] w2 _
        have lp54_10 : ∀ (fuel : Nat) (y5 : Nat) (c6 : Nat), (y5 < e ^ (n - c6)) → (c6 ≤ n) → (y5 < 2200) → (c6 < fuel) → J X mX8_coloured d kc ks 54 [some (.ref 19), some (.int (nI a)), some (.int (nI c)), some (.int (nI e)), some (.int (nI y4)), some (.int (nI y5)), some (.int (nI c6 + Int32.ofInt (-1)))] [] w2 (pI (fun v => ∃ k : Nat, v = nI k ∧ k < e ^ n) (fun w' => ∃ (nx' : Nat → Nat), RM n mv rw nx' b bt kn en dn rf kk th w' ∧ FR b b w w' ∧ (∀ i, nx' i < 7))) := by
          intro fuellp54_10
          induction fuellp54_10 with
          | zero => intros; omega
          | succ fuellp54_10 ihlp54_10 =>
            intro y5 c6 hv54_0 hv54_1 hv54_2 hf11
            refine J_iload (pc := 54) dX8_coloured_54 rfl ?_
            refine J_if_ltM (pc := 56) (tgt := 79) dX8_coloured_56 (by decide) (by omega) (fun ht12 => ?_) (fun hf13 => ?_)
            · refine J_iload (pc := 79) dX8_coloured_79 rfl ?_
              exact J_iret (pc := 81) dX8_coloured_81 rfl ⟨⟨y5, rfl, by rw [show n = n - c6 by omega]; exact hv54_0⟩, ⟨nx_6, ⟨h19_7, h20_7, h21_7, h22_7, hb_7, hbl_7, hb3_7⟩, hF4, gx5⟩⟩
            · rw [nI_m1 hf13]
              refine J_iload (pc := 59) dX8_coloured_59 rfl ?_
              refine J_iload_n (pc := 61) dX8_coloured_61 rfl rfl ?_
              refine J_imulN (pc := 62) dX8_coloured_62 ?_
              refine J_aload_n (pc := 63) dX8_coloured_63 rfl rfl rfl ?_
              refine J_get (pc := 64) (k := 3) dX8_coloured_64 kC9 (by decide) ff_X8_20 h19_7 rfl ?_
              refine J_iload (pc := 67) dX8_coloured_67 rfl ?_
              refine J_ialdF (pc := 69) dX8_coloured_69 h22_7 (by omega) (by decide) ?_
              have hq14 := gx5 (c6 - 1)
              refine J_iaddN (pc := 70) dX8_coloured_70 ?_
              have hnx := hall (c6 - 1) (by omega)
              have hcs := pw_step (n := n) (c := c6) hv54_0 hnx (by omega) (by omega)
              refine J_istore (pc := 71) dX8_coloured_71 (by decide) rfl ?_
              show J X mX8_coloured d kc ks 73 [some (.ref 19), some (.int (nI a)), some (.int (nI c)), some (.int (nI e)), some (.int (nI y4)), some (.int (nI ((y5 * e) + (nx_6 (c6 - 1))))), some (.int (nI (c6 - 1)))] [] w2 _
              refine J_iinc (pc := 73) dX8_coloured_73 rfl rfl (by decide) rfl ?_
              show J X mX8_coloured d kc ks 76 [some (.ref 19), some (.int (nI a)), some (.int (nI c)), some (.int (nI e)), some (.int (nI y4)), some (.int (nI ((y5 * e) + (nx_6 (c6 - 1))))), some (.int (nI (c6 - 1) + Int32.ofInt (-1)))] [] w2 _
              refine J_goto (pc := 76) (tgt := 54) dX8_coloured_76 (by decide) ?_
              exact J_sub (L' := [some (.ref 19), some (.int (nI a)), some (.int (nI c)), some (.int (nI e)), some (.int (nI y4)), some (.int (nI ((y5 * e) + (nx_6 (c6 - 1))))), some (.int (nI (c6 - 1) + Int32.ofInt (-1)))]) ⟨rfl, ⟨rfl, ⟨rfl, ⟨rfl, ⟨rfl, ⟨rfl, ⟨rfl, trivial⟩⟩⟩⟩⟩⟩⟩ (ihlp54_10 ((y5 * e) + (nx_6 (c6 - 1))) (c6 - 1) (by rw [show n - (c6 - 1) = n - c6 + 1 by omega]; exact hcs) (by first | assumption | omega) (by exact Nat.lt_of_lt_of_le hcs (Nat.le_trans (pw_le2 hy2 (by omega)) (by decide))) (by omega))
        exact J_sub (L' := [some (.ref 19), some (.int (nI a)), some (.int (nI c)), some (.int (nI e)), some (.int (nI y4)), some (.int (nI 0)), some (.int (nI n + Int32.ofInt (-1)))]) ⟨rfl, ⟨rfl, ⟨rfl, ⟨rfl, ⟨rfl, ⟨rfl, ⟨rfl, trivial⟩⟩⟩⟩⟩⟩⟩ (lp54_10 _ 0 n (by rw [Nat.sub_self]; exact Nat.one_pos) (by first | assumption | omega) (by omega) (Nat.lt_succ_self _))
      · refine J_aload_n (pc := 15) dX8_coloured_15 rfl rfl rfl ?_
        refine J_get (pc := 16) (k := 3) dX8_coloured_16 kC9 (by decide) ff_X8_20 h19_7 rfl ?_
        refine J_aload_n (pc := 19) dX8_coloured_19 rfl rfl rfl ?_
        refine J_iload_n (pc := 20) dX8_coloured_20 rfl rfl ?_
        refine J_iload (pc := 21) dX8_coloured_21 rfl ?_
        refine J_callV0 (pc := 23) (M := mX8_coloured) (as := [.int (nI c), .int (nI c5)]) dX8_coloured_23 fw_X8_at fl_X8_82 fm_X8_at fe_X8_at h19_7 (by decide) rfl rfl rfl (c_X8_at hs (d := d - 1) (Nat.le_trans (by decide) hdm) (w := w2) (n := n) (mv := mv) (rw := rw) (nx := nx_6) (b := b) (bt := bt) (kn := kn) (en := en) (dn := dn) (rf := rf) (kk := kk) (th := th) ⟨h19_7, h20_7, h21_7, h22_7, hb_7, hbl_7, hb3_7⟩ hn1 hn2 gm gr gx5 c c5 (by first | assumption | omega) (by first | assumption | omega) (kc := 0) (ks := 0)) hdp (st := [.ref 22]) (Nat.le_of_ble_eq_true rfl) rfl (kr_P fun v15 hv15 => ?_) kx_I
        subst hv15
        have hq16 := gm (c * 7 + c5)
        refine J_iload (pc := 26) dX8_coloured_26 rfl ?_
        refine J_iload_n (pc := 28) dX8_coloured_28 rfl rfl ?_
        have hm17 := Nat.mod_lt y4 (show 0 < e by omega)
        have hm18 := Nat.div_le_self y4 e
        refine J_iremN (pc := 29) dX8_coloured_29 (by omega) (by omega) (by omega) ?_
        refine J_iastF (pc := 30) dX8_coloured_30 h22_7 (by omega) (by decide) (fun w19 hln19 hc19 hne19 => ?_)
        have hg19 : ∀ i, (up nx_6 (mv (c * 7 + c5)) (y4 % e)) i < 7 := up_b gx5 (by omega)
        have h19_19 := (hne19 19 (by decide)).trans h19_7
        have h20_19 := (hne19 20 (by decide)).trans h20_7
        have h21_19 := (hne19 21 (by decide)).trans h21_7
        have hb_19 := (hne19 _ (Nat.ne_of_gt (Nat.lt_of_lt_of_le (by decide) hb3_7))).trans hb_7
        have hF19 := hF4.st hln19 hne19 (Or.inl (by decide))
        refine J_iload (pc := 31) dX8_coloured_31 rfl ?_
        refine J_iload_n (pc := 33) dX8_coloured_33 rfl rfl ?_
        have hm20 := Nat.mod_lt y4 (show 0 < e by omega)
        have hm21 := Nat.div_le_self y4 e
        refine J_idivN (pc := 34) dX8_coloured_34 (by omega) (by omega) (by omega) ?_
        refine J_istore (pc := 35) dX8_coloured_35 (by decide) rfl ?_
        show J X mX8_coloured d kc ks 37 [some (.ref 19), some (.int (nI a)), some (.int (nI c)), some (.int (nI e)), some (.int (nI (y4 / e))), some (.int (nI c5)), none] [] w19 _
        refine J_iincN (pc := 37) (b := 1) dX8_coloured_37 rfl (by decide) (by decide) rfl ?_
        show J X mX8_coloured d kc ks 40 [some (.ref 19), some (.int (nI a)), some (.int (nI c)), some (.int (nI e)), some (.int (nI (y4 / e))), some (.int (nI (c5 + 1))), none] [] w19 _
        refine J_goto (pc := 40) (tgt := 6) dX8_coloured_40 (by decide) ?_
        exact J_sub (L' := [some (.ref 19), some (.int (nI a)), some (.int (nI c)), some (.int (nI e)), some (.int (nI (y4 / e))), some (.int (nI (c5 + 1))), none]) ⟨rfl, ⟨rfl, ⟨rfl, ⟨rfl, ⟨rfl, ⟨rfl, trivial⟩⟩⟩⟩⟩⟩ (ihlp6_1 w19 (up nx_6 (mv (c * 7 + c5)) (y4 % e)) (y4 / e) (c5 + 1) ⟨h19_19, h20_19, h21_19, hc19, hb_19, hbl_7, hb3_7⟩ hF19 hg19 (by intro p hp; by_cases q : p = c5; (subst q; rw [up_s]; omega); (rw [up_n (fun q2 => q ((hy3 c hy0).2 p c5 (by omega) (by omega) q2))]; exact hv6_0 p (by omega))) (by first | assumption | omega) (by first | assumption | omega) (by omega))
  exact J_sub (L' := [some (.ref 19), some (.int (nI a)), some (.int (nI c)), some (.int (nI e)), some (.int (nI a)), some (.int (nI 0)), none]) ⟨rfl, ⟨rfl, ⟨rfl, ⟨rfl, ⟨rfl, ⟨rfl, trivial⟩⟩⟩⟩⟩⟩ (lp6_1 _ w nx a 0 ⟨h19, h20, h21, h22, hbb, hbl, hb3⟩ hF gx (by intro p hp; omega) (by first | assumption | omega) (by first | assumption | omega) (Nat.lt_succ_self _))
