section
/-! contracts of the reference: rspec1 -/
set_option maxRecDepth 100000 in
set_option maxHeartbeats 4000000 in
theorem c_X8_rowOf {X : jX} (hs : X.1.stackTraces = false) {d : Nat} (hd : 0 ≤ d) {n : Nat} {mv rw nx : Nat → Nat} {b : Nat} {bt : List Int32} {kn en dn rf kk th : Int32} {w : List jC} (hR : RM n mv rw nx b bt kn en dn rf kk th w) (hn1 : 2 ≤ n) (hn2 : n ≤ 7) (gm : ∀ i, mv i < 7) (gr : ∀ i, rw i < 7) (gx : ∀ i, nx i < 7) (num : Nat) (hy0 : num < 5056) {kc ks : Nat} : jMet X mX8_rowOf d kc ks [.ref 19, .int (nI num), .ref 21] w (pV (fun w' => ∃ (rw' : Nat → Nat), RM n mv rw' nx b bt kn en dn rf kk th w' ∧ FR b b w w' ∧ (∀ i, rw' i < 7) ∧ ∀ p, p < n → rw' p = rwF n num p)) := by
  refine jMet_of hs (by decide +kernel) (Nat.le_of_ble_eq_true rfl) (L := [some (.ref 19), some (.int (nI num)), some (.ref 21), none, none, none]) rfl ?_
  have hfc := fc_7 hn2
  have hfp := fc_pos n
  obtain ⟨h19, h20, h21, h22, hbb, hbl, hb3⟩ := hR
  have hF : FR b b w w := FR.rf
  refine J_iload_n (pc := 0) dX8_rowOf_0 rfl rfl ?_
  refine J_istore_n (pc := 1) dX8_rowOf_1 rfl (by decide) rfl ?_
  show J X mX8_rowOf d kc ks 2 [some (.ref 19), some (.int (nI num)), some (.ref 21), some (.int (nI num)), none, none] [] w _
  refine J_aload_n (pc := 2) dX8_rowOf_2 rfl rfl rfl ?_
  refine J_get (pc := 3) (k := 0) dX8_rowOf_3 kC9 (by decide) ff_X8_7 h19 rfl ?_
  refine J_iconst (pc := 6) (v := nI 1) dX8_rowOf_6 (by decide) ?_
  refine J_isubM (pc := 7) dX8_rowOf_7 ?_
  refine J_istore (pc := 8) dX8_rowOf_8 (by decide) rfl ?_
  show J X mX8_rowOf d kc ks 10 [some (.ref 19), some (.int (nI num)), some (.ref 21), some (.int (nI num)), some (.int (nI n + Int32.ofInt (-1))), none] [] w _
  have lp10_1 : ∀ (fuel : Nat) (w2 : List jC) (rw_10 : Nat → Nat) (y3 : Nat) (c4 : Nat), (RM n mv rw_10 nx b bt kn en dn rf kk th w2) → (FR b b w w2) → (∀ i, rw_10 i < 7) → (c4 ≤ n) → (y3 = dg num (n - c4)) → (∀ i, c4 ≤ i → i < n → rw_10 i = rwA n num i) → (y3 < 5056) → (c4 < fuel) → J X mX8_rowOf d kc ks 10 [some (.ref 19), some (.int (nI num)), some (.ref 21), some (.int (nI y3)), some (.int (nI c4 + Int32.ofInt (-1))), none] [] w2 (pV (fun w' => ∃ (rw' : Nat → Nat), RM n mv rw' nx b bt kn en dn rf kk th w' ∧ FR b b w w' ∧ (∀ i, rw' i < 7) ∧ ∀ p, p < n → rw' p = rwF n num p)) := by
    intro fuellp10_1
    induction fuellp10_1 with
    | zero => intros; omega
    | succ fuellp10_1 ihlp10_1 =>
      intro w2 rw_10 y3 c4 hR3 hF4 gr5 hv10_0 hv10_1 hv10_2 hv10_3 hf6
      obtain ⟨h19_7, h20_7, h21_7, h22_7, hb_7, hbl_7, hb3_7⟩ := hR3
      refine J_iload (pc := 10) dX8_rowOf_10 rfl ?_
      refine J_if_ltM (pc := 12) (tgt := 44) dX8_rowOf_12 (by decide) (by omega) (fun ht8 => ?_) (fun hf9 => ?_)
      · refine J_aload_n (pc := 44) dX8_rowOf_44 rfl rfl rfl ?_
        refine J_get (pc := 45) (k := 0) dX8_rowOf_45 kC9 (by decide) ff_X8_7 h19_7 rfl ?_
        refine J_iconst (pc := 48) (v := nI 2) dX8_rowOf_48 (by decide) ?_
        refine J_isubN (pc := 49) dX8_rowOf_49 (by omega) ?_
        refine J_istore (pc := 50) dX8_rowOf_50 (by decide) rfl ?_
        show J X mX8_rowOf d kc ks 52 [some (.ref 19), some (.int (nI num)), some (.ref 21), some (.int (nI y3)), some (.int (nI (n - 2))), none] [] w2 _
        have lp52_10 : ∀ (fuel : Nat) (w11 : List jC) (rw_52 : Nat → Nat) (c4 : Nat), (RM n mv rw_52 nx b bt kn en dn rf kk th w11) → (FR b b w w11) → (∀ i, rw_52 i < 7) → (c4 + 1 ≤ n) → (∀ i, i < n → rw_52 i = rwB n num (n - 1 - c4) i) → (c4 < fuel) → J X mX8_rowOf d kc ks 52 [some (.ref 19), some (.int (nI num)), some (.ref 21), some (.int (nI y3)), some (.int (nI c4 + Int32.ofInt (-1))), none] [] w11 (pV (fun w' => ∃ (rw' : Nat → Nat), RM n mv rw' nx b bt kn en dn rf kk th w' ∧ FR b b w w' ∧ (∀ i, rw' i < 7) ∧ ∀ p, p < n → rw' p = rwF n num p)) := by
          intro fuellp52_10
          induction fuellp52_10 with
          | zero => intros; omega
          | succ fuellp52_10 ihlp52_10 =>
            intro w11 rw_52 c4 hR12 hF13 gr14 hv52_0 hv52_1 hf15
            obtain ⟨h19_16, h20_16, h21_16, h22_16, hb_16, hbl_16, hb3_16⟩ := hR12
            refine J_iload (pc := 52) dX8_rowOf_52 rfl ?_
            refine J_if_ltM (pc := 54) (tgt := 103) dX8_rowOf_54 (by decide) (by omega) (fun ht17 => ?_) (fun hf18 => ?_)
            · exact J_vret (pc := 103) dX8_rowOf_103 rfl (⟨rw_52, ⟨h19_16, h20_16, h21_16, h22_16, hb_16, hbl_16, hb3_16⟩, hF13, gr14, (by intro p hp; rw [hv52_1 p hp, show c4 = 0 by omega]; rfl)⟩)
            · rw [nI_m1 hf18]
              refine J_iload (pc := 57) dX8_rowOf_57 rfl ?_
              refine J_iconst (pc := 59) (v := nI 1) dX8_rowOf_59 (by decide) ?_
              refine J_iaddN (pc := 60) dX8_rowOf_60 ?_
              refine J_istore (pc := 61) dX8_rowOf_61 (by decide) rfl ?_
              show J X mX8_rowOf d kc ks 63 [some (.ref 19), some (.int (nI num)), some (.ref 21), some (.int (nI y3)), some (.int (nI (c4 - 1))), some (.int (nI ((c4 - 1) + 1)))] [] w11 _
              have lp63_19 : ∀ (fuel : Nat) (w20 : List jC) (rw_63 : Nat → Nat) (c5 : Nat), (RM n mv rw_63 nx b bt kn en dn rf kk th w20) → (FR b b w w20) → (∀ i, rw_63 i < 7) → (c4 ≤ c5) → (c5 ≤ n) → (∀ i, i < n → rw_63 i = ins (rwB n num (n - 1 - c4)) (c4 - 1) c5 i) → (n - c5 < fuel) → J X mX8_rowOf d kc ks 63 [some (.ref 19), some (.int (nI num)), some (.ref 21), some (.int (nI y3)), some (.int (nI (c4 - 1))), some (.int (nI c5))] [] w20 (pV (fun w' => ∃ (rw' : Nat → Nat), RM n mv rw' nx b bt kn en dn rf kk th w' ∧ FR b b w w' ∧ (∀ i, rw' i < 7) ∧ ∀ p, p < n → rw' p = rwF n num p)) := by
                intro fuellp63_19
                induction fuellp63_19 with
                | zero => intros; omega
                | succ fuellp63_19 ihlp63_19 =>
                  intro w20 rw_63 c5 hR21 hF22 gr23 hv63_0 hv63_1 hv63_2 hf24
                  obtain ⟨h19_25, h20_25, h21_25, h22_25, hb_25, hbl_25, hb3_25⟩ := hR21
                  refine J_iload (pc := 63) dX8_rowOf_63 rfl ?_
                  refine J_aload_n (pc := 65) dX8_rowOf_65 rfl rfl rfl ?_
                  refine J_get (pc := 66) (k := 0) dX8_rowOf_66 kC9 (by decide) ff_X8_7 h19_25 rfl ?_
                  refine J_icmp_geN (pc := 69) (tgt := 97) dX8_rowOf_69 (by decide) (by omega) (by omega) (fun ht26 => ?_) (fun hf27 => ?_)
                  · refine J_iinc (pc := 97) dX8_rowOf_97 rfl rfl (by decide) rfl ?_
                    show J X mX8_rowOf d kc ks 100 [some (.ref 19), some (.int (nI num)), some (.ref 21), some (.int (nI y3)), some (.int (nI (c4 - 1) + Int32.ofInt (-1))), some (.int (nI c5))] [] w20 _
                    refine J_goto (pc := 100) (tgt := 52) dX8_rowOf_100 (by decide) ?_
                    exact J_sub (L' := [some (.ref 19), some (.int (nI num)), some (.ref 21), some (.int (nI y3)), some (.int (nI (c4 - 1) + Int32.ofInt (-1))), none]) ⟨rfl, ⟨rfl, ⟨rfl, ⟨rfl, ⟨rfl, trivial⟩⟩⟩⟩⟩ (ihlp52_10 w20 rw_63 (c4 - 1) ⟨h19_25, h20_25, h21_25, h22_25, hb_25, hbl_25, hb3_25⟩ hF22 gr23 (by first | assumption | omega) (by intro i hi; rw [hv63_2 i hi, show n - 1 - (c4 - 1) = n - 1 - c4 + 1 by omega]; show _ = ins _ (n - 2 - (n - 1 - c4)) n i; rw [show n - 2 - (n - 1 - c4) = c4 - 1 by omega, show c5 = n by omega]) (by omega))
                  · refine J_aload_n (pc := 72) dX8_rowOf_72 rfl rfl rfl ?_
                    refine J_iload (pc := 73) dX8_rowOf_73 rfl ?_
                    refine J_ialdF (pc := 75) dX8_rowOf_75 h21_25 (by omega) (by decide) ?_
                    have hq28 := gr23 c5
                    refine J_aload_n (pc := 76) dX8_rowOf_76 rfl rfl rfl ?_
                    refine J_iload (pc := 77) dX8_rowOf_77 rfl ?_
                    refine J_ialdF (pc := 79) dX8_rowOf_79 h21_25 (by omega) (by decide) ?_
                    have hq29 := gr23 (c4 - 1)
                    refine J_icmp_ltN (pc := 80) (tgt := 91) dX8_rowOf_80 (by decide) (by omega) (by omega) (fun ht30 => ?_) (fun hf31 => ?_)
                    · refine J_iincN (pc := 91) (b := 1) dX8_rowOf_91 rfl (by decide) (by decide) rfl ?_
                      show J X mX8_rowOf d kc ks 94 [some (.ref 19), some (.int (nI num)), some (.ref 21), some (.int (nI y3)), some (.int (nI (c4 - 1))), some (.int (nI (c5 + 1)))] [] w20 _
                      refine J_goto (pc := 94) (tgt := 63) dX8_rowOf_94 (by decide) ?_
                      exact J_sub (L' := [some (.ref 19), some (.int (nI num)), some (.ref 21), some (.int (nI y3)), some (.int (nI (c4 - 1))), some (.int (nI (c5 + 1)))]) ⟨rfl, ⟨rfl, ⟨rfl, ⟨rfl, ⟨rfl, ⟨rfl, trivial⟩⟩⟩⟩⟩⟩ (ihlp63_19 w20 rw_63 (c5 + 1) ⟨h19_25, h20_25, h21_25, h22_25, hb_25, hbl_25, hb3_25⟩ hF22 gr23 (by first | assumption | omega) (by first | assumption | omega) (by first | exact ins_step1 hv63_2 (by omega) (by omega) (by assumption) | exact ins_step0 hv63_2 (by omega) (by omega) (by assumption)) (by omega))
                    · have h83 := (rwB_spec n num (n - 1 - c4) (by omega)).2.1 c5 (by omega) (by omega)
                      have h84 := hv63_2 c5 (by omega)
                      have h85 := ins_at (f := rwB n num (n - 1 - c4)) (p := c4 - 1) (q := c5)
                      refine J_aload_n (pc := 83) dX8_rowOf_83 rfl rfl rfl ?_
                      refine J_iload (pc := 84) dX8_rowOf_84 rfl ?_
                      refine J_dup2 (pc := 86) dX8_rowOf_86 rfl rfl ?_
                      refine J_ialdF (pc := 87) dX8_rowOf_87 h21_25 (by omega) (by decide) ?_
                      have hq32 := gr23 c5
                      refine J_iconst (pc := 88) (v := nI 1) dX8_rowOf_88 (by decide) ?_
                      refine J_iaddN (pc := 89) dX8_rowOf_89 ?_
                      refine J_iastF (pc := 90) dX8_rowOf_90 h21_25 (by omega) (by decide) (fun w33 hln33 hc33 hne33 => ?_)
                      have hg33 : ∀ i, (up rw_63 c5 (rw_63 c5 + 1)) i < 7 := up_b gr23 (by omega)
                      have h19_33 := (hne33 19 (by omega)).trans h19_25
                      have h20_33 := (hne33 20 (by omega)).trans h20_25
                      have h22_33 := (hne33 22 (by omega)).trans h22_25
                      have hb_33 := (hne33 _ (by omega)).trans hb_25
                      have hF33 := hF22.st hln33 hne33 (Or.inl (by decide))
                      refine J_iincN (pc := 91) (b := 1) dX8_rowOf_91 rfl (by decide) (by decide) rfl ?_
                      show J X mX8_rowOf d kc ks 94 [some (.ref 19), some (.int (nI num)), some (.ref 21), some (.int (nI y3)), some (.int (nI (c4 - 1))), some (.int (nI (c5 + 1)))] [] w33 _
                      refine J_goto (pc := 94) (tgt := 63) dX8_rowOf_94 (by decide) ?_
                      exact J_sub (L' := [some (.ref 19), some (.int (nI num)), some (.ref 21), some (.int (nI y3)), some (.int (nI (c4 - 1))), some (.int (nI (c5 + 1)))]) ⟨rfl, ⟨rfl, ⟨rfl, ⟨rfl, ⟨rfl, ⟨rfl, trivial⟩⟩⟩⟩⟩⟩ (ihlp63_19 w33 (up rw_63 c5 (rw_63 c5 + 1)) (c5 + 1) ⟨h19_33, h20_33, hc33, h22_33, hb_33, hbl_25, hb3_25⟩ hF33 hg33 (by first | assumption | omega) (by first | assumption | omega) (by first | exact ins_step1 hv63_2 (by omega) (by omega) (by assumption) | exact ins_step0 hv63_2 (by omega) (by omega) (by assumption)) (by omega))
              exact J_sub (L' := [some (.ref 19), some (.int (nI num)), some (.ref 21), some (.int (nI y3)), some (.int (nI (c4 - 1))), some (.int (nI ((c4 - 1) + 1)))]) ⟨rfl, ⟨rfl, ⟨rfl, ⟨rfl, ⟨rfl, ⟨rfl, trivial⟩⟩⟩⟩⟩⟩ (lp63_19 _ w11 rw_52 ((c4 - 1) + 1) ⟨h19_16, h20_16, h21_16, h22_16, hb_16, hbl_16, hb3_16⟩ hF13 gr14 (by first | assumption | omega) (by first | assumption | omega) (by intro i hi; unfold ins; rw [if_neg (by omega)]; exact hv52_1 i hi) (Nat.lt_succ_self _))
        exact J_sub (L' := [some (.ref 19), some (.int (nI num)), some (.ref 21), some (.int (nI y3)), some (.int (nI (n - 2 + 1) + Int32.ofInt (-1))), none]) ⟨rfl, ⟨rfl, ⟨rfl, ⟨rfl, ⟨(congrArg (fun z => some (Value.int z)) (nI_n1 (n - 2))), trivial⟩⟩⟩⟩⟩ (lp52_10 _ w2 rw_10 (n - 2 + 1) ⟨h19_7, h20_7, h21_7, h22_7, hb_7, hbl_7, hb3_7⟩ hF4 gr5 (by first | assumption | omega) (by intro i hi; rw [show n - 1 - (n - 2 + 1) = 0 by omega]; exact hv10_2 i (by omega) hi) (Nat.lt_succ_self _))
      · rw [nI_m1 hf9]
        refine J_aload_n (pc := 15) dX8_rowOf_15 rfl rfl rfl ?_
        refine J_iload (pc := 16) dX8_rowOf_16 rfl ?_
        refine J_iload_n (pc := 18) dX8_rowOf_18 rfl rfl ?_
        refine J_aload_n (pc := 19) dX8_rowOf_19 rfl rfl rfl ?_
        refine J_get (pc := 20) (k := 0) dX8_rowOf_20 kC9 (by decide) ff_X8_7 h19_7 rfl ?_
        refine J_iload (pc := 23) dX8_rowOf_23 rfl ?_
        refine J_isubN (pc := 25) dX8_rowOf_25 (by omega) ?_
        have hm34 := Nat.mod_lt y3 (show 0 < n - (c4 - 1) by omega)
        have hm35 := Nat.div_le_self y3 (n - (c4 - 1))
        refine J_iremN (pc := 26) dX8_rowOf_26 (by omega) (by omega) (by omega) ?_
        refine J_iastF (pc := 27) dX8_rowOf_27 h21_7 (by omega) (by decide) (fun w36 hln36 hc36 hne36 => ?_)
        have hg36 : ∀ i, (up rw_10 (c4 - 1) (y3 % (n - (c4 - 1)))) i < 7 := up_b gr5 (by omega)
        have h19_36 := (hne36 19 (by omega)).trans h19_7
        have h20_36 := (hne36 20 (by omega)).trans h20_7
        have h22_36 := (hne36 22 (by omega)).trans h22_7
        have hb_36 := (hne36 _ (by omega)).trans hb_7
        have hF36 := hF4.st hln36 hne36 (Or.inl (by decide))
        refine J_iload_n (pc := 28) dX8_rowOf_28 rfl rfl ?_
        refine J_aload_n (pc := 29) dX8_rowOf_29 rfl rfl rfl ?_
        refine J_get (pc := 30) (k := 0) dX8_rowOf_30 kC9 (by decide) ff_X8_7 h19_36 rfl ?_
        refine J_iload (pc := 33) dX8_rowOf_33 rfl ?_
        refine J_isubN (pc := 35) dX8_rowOf_35 (by omega) ?_
        have hm37 := Nat.mod_lt y3 (show 0 < n - (c4 - 1) by omega)
        have hm38 := Nat.div_le_self y3 (n - (c4 - 1))
        refine J_idivN (pc := 36) dX8_rowOf_36 (by omega) (by omega) (by omega) ?_
        refine J_istore_n (pc := 37) dX8_rowOf_37 rfl (by decide) rfl ?_
        show J X mX8_rowOf d kc ks 38 [some (.ref 19), some (.int (nI num)), some (.ref 21), some (.int (nI (y3 / (n - (c4 - 1))))), some (.int (nI (c4 - 1))), none] [] w36 _
        refine J_iinc (pc := 38) dX8_rowOf_38 rfl rfl (by decide) rfl ?_
        show J X mX8_rowOf d kc ks 41 [some (.ref 19), some (.int (nI num)), some (.ref 21), some (.int (nI (y3 / (n - (c4 - 1))))), some (.int (nI (c4 - 1) + Int32.ofInt (-1))), none] [] w36 _
        refine J_goto (pc := 41) (tgt := 10) dX8_rowOf_41 (by decide) ?_
        exact J_sub (L' := [some (.ref 19), some (.int (nI num)), some (.ref 21), some (.int (nI (y3 / (n - (c4 - 1))))), some (.int (nI (c4 - 1) + Int32.ofInt (-1))), none]) ⟨rfl, ⟨rfl, ⟨rfl, ⟨rfl, ⟨rfl, trivial⟩⟩⟩⟩⟩ (ihlp10_1 w36 (up rw_10 (c4 - 1) (y3 % (n - (c4 - 1)))) (y3 / (n - (c4 - 1))) (c4 - 1) ⟨h19_36, h20_36, hc36, h22_36, hb_36, hbl_7, hb3_7⟩ hF36 hg36 (by first | assumption | omega) (by rw [hv10_1, show n - (c4 - 1) = (n - c4) + 1 by omega]; rfl) (by intro i h1 h2; by_cases e : i = c4 - 1; (subst e; rw [up_s, hv10_1]; show _ = dg num (n - 1 - (c4 - 1)) % (n - (c4 - 1)); rw [show n - 1 - (c4 - 1) = n - c4 by omega]); (rw [up_n e]; exact hv10_2 i (by omega) h2)) (by first | assumption | omega) (by omega))
  exact J_sub (L' := [some (.ref 19), some (.int (nI num)), some (.ref 21), some (.int (nI num)), some (.int (nI n + Int32.ofInt (-1))), none]) ⟨rfl, ⟨rfl, ⟨rfl, ⟨rfl, ⟨rfl, trivial⟩⟩⟩⟩⟩ (lp10_1 _ w rw num n ⟨h19, h20, h21, h22, hbb, hbl, hb3⟩ hF gr (by first | assumption | omega) (by rw [Nat.sub_self]; rfl) (by intro i h1 h2; omega) (by first | assumption | omega) (Nat.lt_succ_self _))
set_option maxRecDepth 100000 in
set_option maxHeartbeats 4000000 in
theorem c_X8_get_at21 {X : jX} (hs : X.1.stackTraces = false) {d : Nat} (hd : 1 ≤ d) {n : Nat} {mv rw nx : Nat → Nat} {b : Nat} {bt : List Int32} {kn en dn rf kk th : Int32} {w : List jC} (hR : RM n mv rw nx b bt kn en dn rf kk th w) (hn1 : 2 ≤ n) (hn2 : n ≤ 7) (gm : ∀ i, mv i < 7) (gr : ∀ i, rw i < 7) (gx : ∀ i, nx i < 7) (a : Nat) (hy0 : a < 6) {kc ks : Nat} : jMet X mX8_get d kc ks [.ref 19, .int (nI a), .ref 21] w (pI (fun v => v = nI (nuF rw 0 n n)) (fun w' => ∃ (mv' : Nat → Nat), RM n mv' rw nx b bt (-1) en (dn + nI 1) rf kk th w' ∧ FR b b w w' ∧ (∀ i, mv' i < 7) ∧ mv' = stM mv a n rw)) := by
  refine jMet_of hs (by decide +kernel) (Nat.le_of_ble_eq_true rfl) (L := [some (.ref 19), some (.int (nI a)), some (.ref 21), none]) rfl ?_
  have hfc := fc_7 hn2
  have hfp := fc_pos n
  obtain ⟨h19, h20, h21, h22, hbb, hbl, hb3⟩ := hR
  have hF : FR b b w w := FR.rf
  refine J_iconst (pc := 0) (v := nI 0) dX8_get_0 (by decide) ?_
  refine J_istore_n (pc := 1) dX8_get_1 rfl (by decide) rfl ?_
  show J X mX8_get d kc ks 2 [some (.ref 19), some (.int (nI a)), some (.ref 21), some (.int (nI 0))] [] w _
  have lp2_1 : ∀ (fuel : Nat) (w2 : List jC) (mv_2 : Nat → Nat) (c3 : Nat), (RM n mv_2 rw nx b bt kn en dn rf kk th w2) → (FR b b w w2) → (∀ i, mv_2 i < 7) → (mv_2 = stM mv a c3 rw) → (c3 ≤ n) → (n - c3 < fuel) → J X mX8_get d kc ks 2 [some (.ref 19), some (.int (nI a)), some (.ref 21), some (.int (nI c3))] [] w2 (pI (fun v => v = nI (nuF rw 0 n n)) (fun w' => ∃ (mv' : Nat → Nat), RM n mv' rw nx b bt (-1) en (dn + nI 1) rf kk th w' ∧ FR b b w w' ∧ (∀ i, mv' i < 7) ∧ mv' = stM mv a n rw)) := by
    intro fuellp2_1
    induction fuellp2_1 with
    | zero => intros; omega
    | succ fuellp2_1 ihlp2_1 =>
      intro w2 mv_2 c3 hR3 hF4 gm5 hv2_0 hv2_1 hf6
      obtain ⟨h19_7, h20_7, h21_7, h22_7, hb_7, hbl_7, hb3_7⟩ := hR3
      refine J_iload_n (pc := 2) dX8_get_2 rfl rfl ?_
      refine J_aload_n (pc := 3) dX8_get_3 rfl rfl rfl ?_
      refine J_get (pc := 4) (k := 0) dX8_get_4 kC9 (by decide) ff_X8_7 h19_7 rfl ?_
      refine J_icmp_geN (pc := 7) (tgt := 30) dX8_get_7 (by decide) (by omega) (by omega) (fun ht8 => ?_) (fun hf9 => ?_)
      · refine J_aload_n (pc := 30) dX8_get_30 rfl rfl rfl ?_
        refine J_iconst (pc := 31) (v := (-1)) dX8_get_31 (by decide) ?_
        refine J_putW (pc := 32) (k := 5) dX8_get_32 kC9 (by decide) ff_X8_26 (Or.inl rfl) ⟨rfl, rfl⟩ h19_7 (by show 5 < 11; decide) (fun w10 hln10 hw10 hne10 => ?_)
        have h19_10 : w10[19]? = some (.inr (9, [.int (nI n), .ref 20, .ref 21, .ref 22, .ref b, .int (-1), .int en, .int dn, .int rf, .int kk, .int th])) := hw10
        have h20_10 := (hne10 20 (by omega)).trans h20_7
        have h21_10 := (hne10 21 (by omega)).trans h21_7
        have h22_10 := (hne10 22 (by omega)).trans h22_7
        have hb_10 := (hne10 _ (by omega)).trans hb_7
        have hF10 := hF4.st hln10 hne10 (Or.inl (by decide))
        refine J_aload_n (pc := 35) dX8_get_35 rfl rfl rfl ?_
        refine J_aload_n (pc := 36) dX8_get_36 rfl rfl rfl ?_
        refine J_aload_n (pc := 37) dX8_get_37 rfl rfl rfl ?_
        refine J_iconst (pc := 38) (v := nI 0) dX8_get_38 (by decide) ?_
        refine J_callV0 (pc := 39) (M := mX8_get) (as := [.ref 21, .int (nI 0)]) dX8_get_39 fw_X8_numberOf fl_X8_45 fm_X8_numberOf fe_X8_numberOf h19_10 (by decide) rfl rfl rfl (c_X8_numberOf_at21 hs (d := d - 1) (by omega) (w := w10) (n := n) (mv := mv_2) (rw := rw) (nx := nx) (b := b) (bt := bt) (kn := (-1)) (en := en) (dn := dn) (rf := rf) (kk := kk) (th := th) ⟨h19_10, h20_10, h21_10, h22_10, hb_10, hbl_7, hb3_7⟩ hn1 hn2 gm5 gr gx 0 (by first | assumption | omega) (kc := 0) (ks := 0)) (by omega) (st := [.ref 19]) (Nat.le_of_ble_eq_true rfl) rfl (kr_P fun v11 hv11 => ?_) kx_I
        subst hv11
        have hq12 := nuF_b rw 0 n
        refine J_callV0 (pc := 42) (M := mX8_get) (as := [.int (nI (nuF rw 0 n n))]) dX8_get_42 fw_X8_told fl_X8_49 fm_X8_told fe_X8_told h19_10 (by decide) rfl rfl rfl (c_X8_told hs (d := d - 1) (by omega) (w := w10) (n := n) (mv := mv_2) (rw := rw) (nx := nx) (b := b) (bt := bt) (kn := (-1)) (en := en) (dn := dn) (rf := rf) (kk := kk) (th := th) ⟨h19_10, h20_10, h21_10, h22_10, hb_10, hbl_7, hb3_7⟩ hn1 hn2 gm5 gr gx (nI (nuF rw 0 n n)) (kc := 0) (ks := 0)) (by omega) (st := []) (Nat.le_of_ble_eq_true rfl) rfl (kr_I fun v13 w13 hv13 hw13 => ?_) kx_I
        obtain ⟨hR13, hFc13⟩ := hw13
        obtain ⟨h19_13, h20_13, h21_13, h22_13, hbb_13, hbl_13, hb3_13⟩ := hR13
        have hF13 := hF10.tr hFc13
        subst hv13
        exact J_iret (pc := 45) dX8_get_45 rfl ⟨rfl, ⟨mv_2, ⟨h19_13, h20_13, h21_13, h22_13, hbb_13, hbl_13, hb3_13⟩, hF13, gm5, (by rw [hv2_0, show c3 = n by omega])⟩⟩
      · refine J_aload_n (pc := 10) dX8_get_10 rfl rfl rfl ?_
        refine J_get (pc := 11) (k := 1) dX8_get_11 kC9 (by decide) ff_X8_13 h19_7 rfl ?_
        refine J_iload_n (pc := 14) dX8_get_14 rfl rfl ?_
        refine J_bipush (pc := 15) (v := nI 7) dX8_get_15 (by decide) ?_
        refine J_imulN (pc := 17) dX8_get_17 ?_
        refine J_iload_n (pc := 18) dX8_get_18 rfl rfl ?_
        refine J_iaddN (pc := 19) dX8_get_19 ?_
        refine J_aload_n (pc := 20) dX8_get_20 rfl rfl rfl ?_
        refine J_iload_n (pc := 21) dX8_get_21 rfl rfl ?_
        refine J_ialdF (pc := 22) dX8_get_22 h21_7 (by omega) (by decide) ?_
        have hq14 := gr c3
        refine J_iastF (pc := 23) dX8_get_23 h20_7 (by omega) (by decide) (fun w15 hln15 hc15 hne15 => ?_)
        have hg15 : ∀ i, (up mv_2 ((a * 7) + c3) (rw c3)) i < 7 := up_b gm5 (by omega)
        have h19_15 := (hne15 19 (by omega)).trans h19_7
        have h21_15 := (hne15 21 (by omega)).trans h21_7
        have h22_15 := (hne15 22 (by omega)).trans h22_7
        have hb_15 := (hne15 _ (by omega)).trans hb_7
        have hF15 := hF4.st hln15 hne15 (Or.inl (by decide))
        refine J_iincN (pc := 24) (b := 1) dX8_get_24 rfl (by decide) (by decide) rfl ?_
        show J X mX8_get d kc ks 27 [some (.ref 19), some (.int (nI a)), some (.ref 21), some (.int (nI (c3 + 1)))] [] w15 _
        refine J_goto (pc := 27) (tgt := 2) dX8_get_27 (by decide) ?_
        exact J_sub (L' := [some (.ref 19), some (.int (nI a)), some (.ref 21), some (.int (nI (c3 + 1)))]) ⟨rfl, ⟨rfl, ⟨rfl, ⟨rfl, trivial⟩⟩⟩⟩ (ihlp2_1 w15 (up mv_2 ((a * 7) + c3) (rw c3)) (c3 + 1) ⟨h19_15, hc15, h21_15, h22_15, hb_15, hbl_7, hb3_7⟩ hF15 hg15 (by rw [hv2_0]; exact stM_s _ _ _ _) (by first | assumption | omega) (by omega))
  exact J_sub (L' := [some (.ref 19), some (.int (nI a)), some (.ref 21), some (.int (nI 0))]) ⟨rfl, ⟨rfl, ⟨rfl, ⟨rfl, trivial⟩⟩⟩⟩ (lp2_1 _ w mv 0 ⟨h19, h20, h21, h22, hbb, hbl, hb3⟩ hF gm (by exact (stM_0 _ _ _).symm) (by first | assumption | omega) (Nat.lt_succ_self _))
set_option maxRecDepth 100000 in
set_option maxHeartbeats 4000000 in
theorem c_X8_get_at22 {X : jX} (hs : X.1.stackTraces = false) {d : Nat} (hd : 1 ≤ d) {n : Nat} {mv rw nx : Nat → Nat} {b : Nat} {bt : List Int32} {kn en dn rf kk th : Int32} {w : List jC} (hR : RM n mv rw nx b bt kn en dn rf kk th w) (hn1 : 2 ≤ n) (hn2 : n ≤ 7) (gm : ∀ i, mv i < 7) (gr : ∀ i, rw i < 7) (gx : ∀ i, nx i < 7) (a : Nat) (hy0 : a < 6) {kc ks : Nat} : jMet X mX8_get d kc ks [.ref 19, .int (nI a), .ref 22] w (pI (fun v => v = nI (nuF nx 0 n n)) (fun w' => ∃ (mv' : Nat → Nat), RM n mv' rw nx b bt (-1) en (dn + nI 1) rf kk th w' ∧ FR b b w w' ∧ (∀ i, mv' i < 7) ∧ mv' = stM mv a n nx)) := by
  refine jMet_of hs (by decide +kernel) (Nat.le_of_ble_eq_true rfl) (L := [some (.ref 19), some (.int (nI a)), some (.ref 22), none]) rfl ?_
  have hfc := fc_7 hn2
  have hfp := fc_pos n
  obtain ⟨h19, h20, h21, h22, hbb, hbl, hb3⟩ := hR
  have hF : FR b b w w := FR.rf
  refine J_iconst (pc := 0) (v := nI 0) dX8_get_0 (by decide) ?_
  refine J_istore_n (pc := 1) dX8_get_1 rfl (by decide) rfl ?_
  show J X mX8_get d kc ks 2 [some (.ref 19), some (.int (nI a)), some (.ref 22), some (.int (nI 0))] [] w _
  have lp2_1 : ∀ (fuel : Nat) (w2 : List jC) (mv_2 : Nat → Nat) (c3 : Nat), (RM n mv_2 rw nx b bt kn en dn rf kk th w2) → (FR b b w w2) → (∀ i, mv_2 i < 7) → (mv_2 = stM mv a c3 nx) → (c3 ≤ n) → (n - c3 < fuel) → J X mX8_get d kc ks 2 [some (.ref 19), some (.int (nI a)), some (.ref 22), some (.int (nI c3))] [] w2 (pI (fun v => v = nI (nuF nx 0 n n)) (fun w' => ∃ (mv' : Nat → Nat), RM n mv' rw nx b bt (-1) en (dn + nI 1) rf kk th w' ∧ FR b b w w' ∧ (∀ i, mv' i < 7) ∧ mv' = stM mv a n nx)) := by
    intro fuellp2_1
    induction fuellp2_1 with
    | zero => intros; omega
    | succ fuellp2_1 ihlp2_1 =>
      intro w2 mv_2 c3 hR3 hF4 gm5 hv2_0 hv2_1 hf6
      obtain ⟨h19_7, h20_7, h21_7, h22_7, hb_7, hbl_7, hb3_7⟩ := hR3
      refine J_iload_n (pc := 2) dX8_get_2 rfl rfl ?_
      refine J_aload_n (pc := 3) dX8_get_3 rfl rfl rfl ?_
      refine J_get (pc := 4) (k := 0) dX8_get_4 kC9 (by decide) ff_X8_7 h19_7 rfl ?_
      refine J_icmp_geN (pc := 7) (tgt := 30) dX8_get_7 (by decide) (by omega) (by omega) (fun ht8 => ?_) (fun hf9 => ?_)
      · refine J_aload_n (pc := 30) dX8_get_30 rfl rfl rfl ?_
        refine J_iconst (pc := 31) (v := (-1)) dX8_get_31 (by decide) ?_
        refine J_putW (pc := 32) (k := 5) dX8_get_32 kC9 (by decide) ff_X8_26 (Or.inl rfl) ⟨rfl, rfl⟩ h19_7 (by show 5 < 11; decide) (fun w10 hln10 hw10 hne10 => ?_)
        have h19_10 : w10[19]? = some (.inr (9, [.int (nI n), .ref 20, .ref 21, .ref 22, .ref b, .int (-1), .int en, .int dn, .int rf, .int kk, .int th])) := hw10
        have h20_10 := (hne10 20 (by omega)).trans h20_7
        have h21_10 := (hne10 21 (by omega)).trans h21_7
        have h22_10 := (hne10 22 (by omega)).trans h22_7
        have hb_10 := (hne10 _ (by omega)).trans hb_7
        have hF10 := hF4.st hln10 hne10 (Or.inl (by decide))
        refine J_aload_n (pc := 35) dX8_get_35 rfl rfl rfl ?_
        refine J_aload_n (pc := 36) dX8_get_36 rfl rfl rfl ?_
        refine J_aload_n (pc := 37) dX8_get_37 rfl rfl rfl ?_
        refine J_iconst (pc := 38) (v := nI 0) dX8_get_38 (by decide) ?_
        refine J_callV0 (pc := 39) (M := mX8_get) (as := [.ref 22, .int (nI 0)]) dX8_get_39 fw_X8_numberOf fl_X8_45 fm_X8_numberOf fe_X8_numberOf h19_10 (by decide) rfl rfl rfl (c_X8_numberOf_at22 hs (d := d - 1) (by omega) (w := w10) (n := n) (mv := mv_2) (rw := rw) (nx := nx) (b := b) (bt := bt) (kn := (-1)) (en := en) (dn := dn) (rf := rf) (kk := kk) (th := th) ⟨h19_10, h20_10, h21_10, h22_10, hb_10, hbl_7, hb3_7⟩ hn1 hn2 gm5 gr gx 0 (by first | assumption | omega) (kc := 0) (ks := 0)) (by omega) (st := [.ref 19]) (Nat.le_of_ble_eq_true rfl) rfl (kr_P fun v11 hv11 => ?_) kx_I
        subst hv11
        have hq12 := nuF_b nx 0 n
        refine J_callV0 (pc := 42) (M := mX8_get) (as := [.int (nI (nuF nx 0 n n))]) dX8_get_42 fw_X8_told fl_X8_49 fm_X8_told fe_X8_told h19_10 (by decide) rfl rfl rfl (c_X8_told hs (d := d - 1) (by omega) (w := w10) (n := n) (mv := mv_2) (rw := rw) (nx := nx) (b := b) (bt := bt) (kn := (-1)) (en := en) (dn := dn) (rf := rf) (kk := kk) (th := th) ⟨h19_10, h20_10, h21_10, h22_10, hb_10, hbl_7, hb3_7⟩ hn1 hn2 gm5 gr gx (nI (nuF nx 0 n n)) (kc := 0) (ks := 0)) (by omega) (st := []) (Nat.le_of_ble_eq_true rfl) rfl (kr_I fun v13 w13 hv13 hw13 => ?_) kx_I
        obtain ⟨hR13, hFc13⟩ := hw13
        obtain ⟨h19_13, h20_13, h21_13, h22_13, hbb_13, hbl_13, hb3_13⟩ := hR13
        have hF13 := hF10.tr hFc13
        subst hv13
        exact J_iret (pc := 45) dX8_get_45 rfl ⟨rfl, ⟨mv_2, ⟨h19_13, h20_13, h21_13, h22_13, hbb_13, hbl_13, hb3_13⟩, hF13, gm5, (by rw [hv2_0, show c3 = n by omega])⟩⟩
      · refine J_aload_n (pc := 10) dX8_get_10 rfl rfl rfl ?_
        refine J_get (pc := 11) (k := 1) dX8_get_11 kC9 (by decide) ff_X8_13 h19_7 rfl ?_
        refine J_iload_n (pc := 14) dX8_get_14 rfl rfl ?_
        refine J_bipush (pc := 15) (v := nI 7) dX8_get_15 (by decide) ?_
        refine J_imulN (pc := 17) dX8_get_17 ?_
        refine J_iload_n (pc := 18) dX8_get_18 rfl rfl ?_
        refine J_iaddN (pc := 19) dX8_get_19 ?_
        refine J_aload_n (pc := 20) dX8_get_20 rfl rfl rfl ?_
        refine J_iload_n (pc := 21) dX8_get_21 rfl rfl ?_
        refine J_ialdF (pc := 22) dX8_get_22 h22_7 (by omega) (by decide) ?_
        have hq14 := gx c3
        refine J_iastF (pc := 23) dX8_get_23 h20_7 (by omega) (by decide) (fun w15 hln15 hc15 hne15 => ?_)
        have hg15 : ∀ i, (up mv_2 ((a * 7) + c3) (nx c3)) i < 7 := up_b gm5 (by omega)
        have h19_15 := (hne15 19 (by omega)).trans h19_7
        have h21_15 := (hne15 21 (by omega)).trans h21_7
        have h22_15 := (hne15 22 (by omega)).trans h22_7
        have hb_15 := (hne15 _ (by omega)).trans hb_7
        have hF15 := hF4.st hln15 hne15 (Or.inl (by decide))
        refine J_iincN (pc := 24) (b := 1) dX8_get_24 rfl (by decide) (by decide) rfl ?_
        show J X mX8_get d kc ks 27 [some (.ref 19), some (.int (nI a)), some (.ref 22), some (.int (nI (c3 + 1)))] [] w15 _
        refine J_goto (pc := 27) (tgt := 2) dX8_get_27 (by decide) ?_
        exact J_sub (L' := [some (.ref 19), some (.int (nI a)), some (.ref 22), some (.int (nI (c3 + 1)))]) ⟨rfl, ⟨rfl, ⟨rfl, ⟨rfl, trivial⟩⟩⟩⟩ (ihlp2_1 w15 (up mv_2 ((a * 7) + c3) (nx c3)) (c3 + 1) ⟨h19_15, hc15, h21_15, h22_15, hb_15, hbl_7, hb3_7⟩ hF15 hg15 (by rw [hv2_0]; exact stM_s _ _ _ _) (by first | assumption | omega) (by omega))
  exact J_sub (L' := [some (.ref 19), some (.int (nI a)), some (.ref 22), some (.int (nI 0))]) ⟨rfl, ⟨rfl, ⟨rfl, ⟨rfl, trivial⟩⟩⟩⟩ (lp2_1 _ w mv 0 ⟨h19, h20, h21, h22, hbb, hbl, hb3⟩ hF gm (by exact (stM_0 _ _ _).symm) (by first | assumption | omega) (Nat.lt_succ_self _))
set_option maxRecDepth 100000 in
set_option maxHeartbeats 4000000 in
theorem c_X8_longOnes {X : jX} (hs : X.1.stackTraces = false) {d : Nat} (hd : 1 ≤ d) {n : Nat} {mv rw nx : Nat → Nat} {b : Nat} {bt : List Int32} {kn en dn rf kk th : Int32} {w : List jC} (hR : RM n mv rw nx b bt kn en dn rf kk th w) (hn1 : 2 ≤ n) (hn2 : n ≤ 7) (gm : ∀ i, mv i < 7) (gr : ∀ i, rw i < 7) (gx : ∀ i, nx i < 7) (a : Nat) (len : Nat) (hy0 : a < 6) (hy1 : 1 ≤ len) (hy2 : len ≤ 7) (hy3 : PM n mv) {kc ks : Nat} : jMet X mX8_longOnes d kc ks [.ref 19, .int (nI a), .int (nI len)] w (pI (fun v => ∃ k : Nat, v = nI k ∧ k ≤ n) (fun w' => w' = w)) := by
  refine jMet_of hs (by decide +kernel) (Nat.le_of_ble_eq_true rfl) (L := [some (.ref 19), some (.int (nI a)), some (.int (nI len)), none, none]) rfl ?_
  have hfc := fc_7 hn2
  have hfp := fc_pos n
  obtain ⟨h19, h20, h21, h22, hbb, hbl, hb3⟩ := hR
  have hF : FR b b w w := FR.rf
  refine J_iconst (pc := 0) (v := nI 0) dX8_longOnes_0 (by decide) ?_
  refine J_istore_n (pc := 1) dX8_longOnes_1 rfl (by decide) rfl ?_
  show J X mX8_longOnes d kc ks 2 [some (.ref 19), some (.int (nI a)), some (.int (nI len)), some (.int (nI 0)), none] [] w _
  refine J_iconst (pc := 2) (v := nI 0) dX8_longOnes_2 (by decide) ?_
  refine J_istore (pc := 3) dX8_longOnes_3 (by decide) rfl ?_
  show J X mX8_longOnes d kc ks 5 [some (.ref 19), some (.int (nI a)), some (.int (nI len)), some (.int (nI 0)), some (.int (nI 0))] [] w _
  have lp5_1 : ∀ (fuel : Nat) (y3 : Nat) (c4 : Nat), (y3 ≤ c4) → (c4 ≤ n) → (n - c4 < fuel) → J X mX8_longOnes d kc ks 5 [some (.ref 19), some (.int (nI a)), some (.int (nI len)), some (.int (nI y3)), some (.int (nI c4))] [] w (pI (fun v => ∃ k : Nat, v = nI k ∧ k ≤ n) (fun w' => w' = w)) := by
    intro fuellp5_1
    induction fuellp5_1 with
    | zero => intros; omega
    | succ fuellp5_1 ihlp5_1 =>
      intro y3 c4 hv5_0 hv5_1 hf2
      refine J_iload (pc := 5) dX8_longOnes_5 rfl ?_
      refine J_aload_n (pc := 7) dX8_longOnes_7 rfl rfl rfl ?_
      refine J_get (pc := 8) (k := 0) dX8_longOnes_8 kC9 (by decide) ff_X8_7 h19 rfl ?_
      refine J_icmp_geN (pc := 11) (tgt := 46) dX8_longOnes_11 (by decide) (by omega) (by omega) (fun ht3 => ?_) (fun hf4 => ?_)
      · refine J_iload_n (pc := 46) dX8_longOnes_46 rfl rfl ?_
        refine J_iload_n (pc := 47) dX8_longOnes_47 rfl rfl ?_
        have hm5 := Nat.mod_lt y3 (show 0 < len by omega)
        have hm6 := Nat.div_le_self y3 len
        refine J_idivN (pc := 48) dX8_longOnes_48 (by omega) (by omega) (by omega) ?_
        exact J_iret (pc := 49) dX8_longOnes_49 rfl ⟨⟨y3 / len, rfl, by omega⟩, rfl⟩
      · refine J_iload_n (pc := 14) dX8_longOnes_14 rfl rfl ?_
        refine J_aload_n (pc := 15) dX8_longOnes_15 rfl rfl rfl ?_
        refine J_aload_n (pc := 16) dX8_longOnes_16 rfl rfl rfl ?_
        refine J_get (pc := 17) (k := 1) dX8_longOnes_17 kC9 (by decide) ff_X8_13 h19 rfl ?_
        refine J_iload_n (pc := 20) dX8_longOnes_20 rfl rfl ?_
        refine J_bipush (pc := 21) (v := nI 7) dX8_longOnes_21 (by decide) ?_
        refine J_imulN (pc := 23) dX8_longOnes_23 ?_
        refine J_iload (pc := 24) dX8_longOnes_24 rfl ?_
        refine J_callV0 (pc := 26) (M := mX8_longOnes) (as := [.ref 20, .int (nI (a * 7)), .int (nI c4)]) dX8_longOnes_26 fw_X8_ringFrom fl_X8_61 fm_X8_ringFrom fe_X8_ringFrom h19 (by decide) rfl rfl rfl (c_X8_ringFrom_at20 hs (d := d - 1) (by omega) (w := w) (n := n) (mv := mv) (rw := rw) (nx := nx) (b := b) (bt := bt) (kn := kn) (en := en) (dn := dn) (rf := rf) (kk := kk) (th := th) ⟨h19, h20, h21, h22, hbb, hbl, hb3⟩ hn1 hn2 gm gr gx (a * 7) c4 (by first | assumption | omega) (by exact hy3 a hy0) (by first | assumption | omega) (kc := 0) (ks := 0)) (by omega) (st := [.int (nI y3)]) (Nat.le_of_ble_eq_true rfl) rfl (kr_P fun v7 hv7 => ?_) kx_I
        obtain ⟨k7, rfl, hk7⟩ := hv7
        refine J_iload_n (pc := 29) dX8_longOnes_29 rfl rfl ?_
        refine J_icmp_neN (pc := 30) (tgt := 37) dX8_longOnes_30 (by decide) (by omega) (by omega) (fun ht8 => ?_) (fun hf9 => ?_)
        · refine J_iconst (pc := 37) (v := nI 0) dX8_longOnes_37 (by decide) ?_
          refine J_iaddN (pc := 38) dX8_longOnes_38 ?_
          refine J_istore_n (pc := 39) dX8_longOnes_39 rfl (by decide) rfl ?_
          show J X mX8_longOnes d kc ks 40 [some (.ref 19), some (.int (nI a)), some (.int (nI len)), some (.int (nI (y3 + 0))), some (.int (nI c4))] [] w _
          refine J_iincN (pc := 40) (b := 1) dX8_longOnes_40 rfl (by decide) (by decide) rfl ?_
          show J X mX8_longOnes d kc ks 43 [some (.ref 19), some (.int (nI a)), some (.int (nI len)), some (.int (nI (y3 + 0))), some (.int (nI (c4 + 1)))] [] w _
          refine J_goto (pc := 43) (tgt := 5) dX8_longOnes_43 (by decide) ?_
          exact J_sub (L' := [some (.ref 19), some (.int (nI a)), some (.int (nI len)), some (.int (nI (y3 + 0))), some (.int (nI (c4 + 1)))]) ⟨rfl, ⟨rfl, ⟨rfl, ⟨rfl, ⟨rfl, trivial⟩⟩⟩⟩⟩ (ihlp5_1 (y3 + 0) (c4 + 1) (by first | assumption | omega) (by first | assumption | omega) (by omega))
        · refine J_iconst (pc := 33) (v := nI 1) dX8_longOnes_33 (by decide) ?_
          refine J_goto (pc := 34) (tgt := 38) dX8_longOnes_34 (by decide) ?_
          refine J_iaddN (pc := 38) dX8_longOnes_38 ?_
          refine J_istore_n (pc := 39) dX8_longOnes_39 rfl (by decide) rfl ?_
          show J X mX8_longOnes d kc ks 40 [some (.ref 19), some (.int (nI a)), some (.int (nI len)), some (.int (nI (y3 + 1))), some (.int (nI c4))] [] w _
          refine J_iincN (pc := 40) (b := 1) dX8_longOnes_40 rfl (by decide) (by decide) rfl ?_
          show J X mX8_longOnes d kc ks 43 [some (.ref 19), some (.int (nI a)), some (.int (nI len)), some (.int (nI (y3 + 1))), some (.int (nI (c4 + 1)))] [] w _
          refine J_goto (pc := 43) (tgt := 5) dX8_longOnes_43 (by decide) ?_
          exact J_sub (L' := [some (.ref 19), some (.int (nI a)), some (.int (nI len)), some (.int (nI (y3 + 1))), some (.int (nI (c4 + 1)))]) ⟨rfl, ⟨rfl, ⟨rfl, ⟨rfl, ⟨rfl, trivial⟩⟩⟩⟩⟩ (ihlp5_1 (y3 + 1) (c4 + 1) (by first | assumption | omega) (by first | assumption | omega) (by omega))
  exact J_sub (L' := [some (.ref 19), some (.int (nI a)), some (.int (nI len)), some (.int (nI 0)), some (.int (nI 0))]) ⟨rfl, ⟨rfl, ⟨rfl, ⟨rfl, ⟨rfl, trivial⟩⟩⟩⟩⟩ (lp5_1 _ 0 0 (by first | assumption | omega) (by first | assumption | omega) (Nat.lt_succ_self _))
end
section
/-! contracts of the reference: rspec2 -/
set_option maxRecDepth 100000 in
set_option maxHeartbeats 4000000 in
theorem c_J6_numberOfTrailingZeros_0f7a4 {X : jX} (hs : X.1.stackTraces = false) {d : Nat} (hd : 0 ≤ d) {w : List jC} (a : Int32) (hy0 : ¬ a = 0) {kc ks : Nat} : jMet X mJ6_numberOfTrailingZeros_0f7a4 d kc ks [.int a] w (pI (fun v => ∃ k : Nat, v = nI k ∧ k < 32 ∧ a.toBitVec.getLsbD k = true) (fun w' => w' = w)) := by
  refine jMet_of hs (by decide +kernel) (Nat.le_of_ble_eq_true rfl) (L := [some (.int a), none]) rfl ?_
  obtain ⟨t, m, ht, hb, he, hm, hz⟩ := tz_of hy0
  refine J_iload_n (pc := 0) dJ6_numberOfTrailingZeros_0f7a4_0 rfl rfl ?_
  refine J_iconst (pc := 1) (v := (-1)) dJ6_numberOfTrailingZeros_0f7a4_1 (by decide) ?_
  refine J_ixor (pc := 2) dJ6_numberOfTrailingZeros_0f7a4_2 ?_
  refine J_iload_n (pc := 3) dJ6_numberOfTrailingZeros_0f7a4_3 rfl rfl ?_
  refine J_iconst (pc := 4) (v := nI 1) dJ6_numberOfTrailingZeros_0f7a4_4 (by decide) ?_
  refine J_isub (pc := 5) dJ6_numberOfTrailingZeros_0f7a4_5 ?_
  refine J_iand (pc := 6) dJ6_numberOfTrailingZeros_0f7a4_6 ?_
  refine J_istore_n (pc := 7) dJ6_numberOfTrailingZeros_0f7a4_7 rfl (by decide) rfl ?_
  show J X mJ6_numberOfTrailingZeros_0f7a4 d kc ks 8 [some (.int ((a ^^^ (-1)) &&& (a - nI 1))), none] [] w _
  rw [he]
  refine J_iload_n (pc := 8) dJ6_numberOfTrailingZeros_0f7a4_8 rfl rfl ?_
  refine J_if_gtN (pc := 9) (tgt := 17) dJ6_numberOfTrailingZeros_0f7a4_9 (by decide) (by omega) (fun ht1 => ?_) (fun hf2 => ?_)
  · refine J_iconst (pc := 17) (v := nI 1) dJ6_numberOfTrailingZeros_0f7a4_17 (by decide) ?_
    refine J_istore_n (pc := 18) dJ6_numberOfTrailingZeros_0f7a4_18 rfl (by decide) rfl ?_
    show J X mJ6_numberOfTrailingZeros_0f7a4 d kc ks 19 [some (.int (nI m)), some (.int (nI 1))] [] w _
    refine J_iload_n (pc := 19) dJ6_numberOfTrailingZeros_0f7a4_19 rfl rfl ?_
    refine J_ldcw (pc := 20) (v := nI 65536) dJ6_numberOfTrailingZeros_0f7a4_20 (by have := fk_J6_264; exact this) ?_
    refine J_icmp_leN (pc := 23) (tgt := 34) dJ6_numberOfTrailingZeros_0f7a4_23 (by decide) (by omega) (by omega) (fun ht3 => ?_) (fun hf4 => ?_)
    · refine J_iload_n (pc := 34) dJ6_numberOfTrailingZeros_0f7a4_34 rfl rfl ?_
      refine J_sipush (pc := 35) (v := nI 256) dJ6_numberOfTrailingZeros_0f7a4_35 (by decide) ?_
      refine J_icmp_leN (pc := 38) (tgt := 49) dJ6_numberOfTrailingZeros_0f7a4_38 (by decide) (by omega) (by omega) (fun ht5 => ?_) (fun hf6 => ?_)
      · refine J_iload_n (pc := 49) dJ6_numberOfTrailingZeros_0f7a4_49 rfl rfl ?_
        refine J_bipush (pc := 50) (v := nI 16) dJ6_numberOfTrailingZeros_0f7a4_50 (by decide) ?_
        refine J_icmp_leN (pc := 52) (tgt := 62) dJ6_numberOfTrailingZeros_0f7a4_52 (by decide) (by omega) (by omega) (fun ht7 => ?_) (fun hf8 => ?_)
        · refine J_iload_n (pc := 62) dJ6_numberOfTrailingZeros_0f7a4_62 rfl rfl ?_
          refine J_iconst (pc := 63) (v := nI 4) dJ6_numberOfTrailingZeros_0f7a4_63 (by decide) ?_
          refine J_icmp_leN (pc := 64) (tgt := 74) dJ6_numberOfTrailingZeros_0f7a4_64 (by decide) (by omega) (by omega) (fun ht9 => ?_) (fun hf10 => ?_)
          · refine J_iload_n (pc := 74) dJ6_numberOfTrailingZeros_0f7a4_74 rfl rfl ?_
            refine J_iload_n (pc := 75) dJ6_numberOfTrailingZeros_0f7a4_75 rfl rfl ?_
            refine J_iconst (pc := 76) (v := nI 1) dJ6_numberOfTrailingZeros_0f7a4_76 (by decide) ?_
            refine J_iushrN (pc := 77) dJ6_numberOfTrailingZeros_0f7a4_77 (by omega) (by decide) ?_
            have hm11 := Nat.div_le_self m (2 ^ 1)
            refine J_iaddN (pc := 78) dJ6_numberOfTrailingZeros_0f7a4_78 ?_
            exact J_iret (pc := 79) dJ6_numberOfTrailingZeros_0f7a4_79 rfl ⟨⟨1 + (m / 2 ^ 1), rfl, by have e : 1 + (m / 2 ^ 1) = t := (by rw [← hz]; unfold ntz; (first | rw [if_pos (by omega)] | rw [if_neg (by omega)]); unfold ntz0; (first | rw [if_pos (by omega)] | rw [if_neg (by omega)]); unfold ntz1; (first | rw [if_pos (by omega)] | rw [if_neg (by omega)]); unfold ntz2; (first | rw [if_pos (by omega)] | rw [if_neg (by omega)]); unfold ntz3; (first | rw [if_pos (by omega)] | rw [if_neg (by omega)]); unfold ntz4; rfl); rw [e]; exact ⟨ht, hb⟩⟩, rfl⟩
          · refine J_iincN (pc := 67) (b := 2) dJ6_numberOfTrailingZeros_0f7a4_67 rfl (by decide) (by decide) rfl ?_
            show J X mJ6_numberOfTrailingZeros_0f7a4 d kc ks 70 [some (.int (nI m)), some (.int (nI 3))] [] w _
            refine J_iload_n (pc := 70) dJ6_numberOfTrailingZeros_0f7a4_70 rfl rfl ?_
            refine J_iconst (pc := 71) (v := nI 2) dJ6_numberOfTrailingZeros_0f7a4_71 (by decide) ?_
            refine J_iushrN (pc := 72) dJ6_numberOfTrailingZeros_0f7a4_72 (by omega) (by decide) ?_
            have hm12 := Nat.div_le_self m (2 ^ 2)
            refine J_istore_n (pc := 73) dJ6_numberOfTrailingZeros_0f7a4_73 rfl (by decide) rfl ?_
            show J X mJ6_numberOfTrailingZeros_0f7a4 d kc ks 74 [some (.int (nI (m / 2 ^ 2))), some (.int (nI 3))] [] w _
            refine J_iload_n (pc := 74) dJ6_numberOfTrailingZeros_0f7a4_74 rfl rfl ?_
            refine J_iload_n (pc := 75) dJ6_numberOfTrailingZeros_0f7a4_75 rfl rfl ?_
            refine J_iconst (pc := 76) (v := nI 1) dJ6_numberOfTrailingZeros_0f7a4_76 (by decide) ?_
            refine J_iushrN (pc := 77) dJ6_numberOfTrailingZeros_0f7a4_77 (by omega) (by decide) ?_
            have hm13 := Nat.div_le_self (m / 2 ^ 2) (2 ^ 1)
            refine J_iaddN (pc := 78) dJ6_numberOfTrailingZeros_0f7a4_78 ?_
            exact J_iret (pc := 79) dJ6_numberOfTrailingZeros_0f7a4_79 rfl ⟨⟨3 + ((m / 2 ^ 2) / 2 ^ 1), rfl, by have e : 3 + ((m / 2 ^ 2) / 2 ^ 1) = t := (by rw [← hz]; unfold ntz; (first | rw [if_pos (by omega)] | rw [if_neg (by omega)]); unfold ntz0; (first | rw [if_pos (by omega)] | rw [if_neg (by omega)]); unfold ntz1; (first | rw [if_pos (by omega)] | rw [if_neg (by omega)]); unfold ntz2; (first | rw [if_pos (by omega)] | rw [if_neg (by omega)]); unfold ntz3; (first | rw [if_pos (by omega)] | rw [if_neg (by omega)]); unfold ntz4; rfl); rw [e]; exact ⟨ht, hb⟩⟩, rfl⟩
        · refine J_iincN (pc := 55) (b := 4) dJ6_numberOfTrailingZeros_0f7a4_55 rfl (by decide) (by decide) rfl ?_
          show J X mJ6_numberOfTrailingZeros_0f7a4 d kc ks 58 [some (.int (nI m)), some (.int (nI 5))] [] w _
          refine J_iload_n (pc := 58) dJ6_numberOfTrailingZeros_0f7a4_58 rfl rfl ?_
          refine J_iconst (pc := 59) (v := nI 4) dJ6_numberOfTrailingZeros_0f7a4_59 (by decide) ?_
          refine J_iushrN (pc := 60) dJ6_numberOfTrailingZeros_0f7a4_60 (by omega) (by decide) ?_
          have hm14 := Nat.div_le_self m (2 ^ 4)
          refine J_istore_n (pc := 61) dJ6_numberOfTrailingZeros_0f7a4_61 rfl (by decide) rfl ?_
          show J X mJ6_numberOfTrailingZeros_0f7a4 d kc ks 62 [some (.int (nI (m / 2 ^ 4))), some (.int (nI 5))] [] w _
          refine J_iload_n (pc := 62) dJ6_numberOfTrailingZeros_0f7a4_62 rfl rfl ?_
          refine J_iconst (pc := 63) (v := nI 4) dJ6_numberOfTrailingZeros_0f7a4_63 (by decide) ?_
          refine J_icmp_leN (pc := 64) (tgt := 74) dJ6_numberOfTrailingZeros_0f7a4_64 (by decide) (by omega) (by omega) (fun ht15 => ?_) (fun hf16 => ?_)
          · refine J_iload_n (pc := 74) dJ6_numberOfTrailingZeros_0f7a4_74 rfl rfl ?_
            refine J_iload_n (pc := 75) dJ6_numberOfTrailingZeros_0f7a4_75 rfl rfl ?_
            refine J_iconst (pc := 76) (v := nI 1) dJ6_numberOfTrailingZeros_0f7a4_76 (by decide) ?_
            refine J_iushrN (pc := 77) dJ6_numberOfTrailingZeros_0f7a4_77 (by omega) (by decide) ?_
            have hm17 := Nat.div_le_self (m / 2 ^ 4) (2 ^ 1)
            refine J_iaddN (pc := 78) dJ6_numberOfTrailingZeros_0f7a4_78 ?_
            exact J_iret (pc := 79) dJ6_numberOfTrailingZeros_0f7a4_79 rfl ⟨⟨5 + ((m / 2 ^ 4) / 2 ^ 1), rfl, by have e : 5 + ((m / 2 ^ 4) / 2 ^ 1) = t := (by rw [← hz]; unfold ntz; (first | rw [if_pos (by omega)] | rw [if_neg (by omega)]); unfold ntz0; (first | rw [if_pos (by omega)] | rw [if_neg (by omega)]); unfold ntz1; (first | rw [if_pos (by omega)] | rw [if_neg (by omega)]); unfold ntz2; (first | rw [if_pos (by omega)] | rw [if_neg (by omega)]); unfold ntz3; (first | rw [if_pos (by omega)] | rw [if_neg (by omega)]); unfold ntz4; rfl); rw [e]; exact ⟨ht, hb⟩⟩, rfl⟩
          · refine J_iincN (pc := 67) (b := 2) dJ6_numberOfTrailingZeros_0f7a4_67 rfl (by decide) (by decide) rfl ?_
            show J X mJ6_numberOfTrailingZeros_0f7a4 d kc ks 70 [some (.int (nI (m / 2 ^ 4))), some (.int (nI 7))] [] w _
            refine J_iload_n (pc := 70) dJ6_numberOfTrailingZeros_0f7a4_70 rfl rfl ?_
            refine J_iconst (pc := 71) (v := nI 2) dJ6_numberOfTrailingZeros_0f7a4_71 (by decide) ?_
            refine J_iushrN (pc := 72) dJ6_numberOfTrailingZeros_0f7a4_72 (by omega) (by decide) ?_
            have hm18 := Nat.div_le_self (m / 2 ^ 4) (2 ^ 2)
            refine J_istore_n (pc := 73) dJ6_numberOfTrailingZeros_0f7a4_73 rfl (by decide) rfl ?_
            show J X mJ6_numberOfTrailingZeros_0f7a4 d kc ks 74 [some (.int (nI ((m / 2 ^ 4) / 2 ^ 2))), some (.int (nI 7))] [] w _
            refine J_iload_n (pc := 74) dJ6_numberOfTrailingZeros_0f7a4_74 rfl rfl ?_
            refine J_iload_n (pc := 75) dJ6_numberOfTrailingZeros_0f7a4_75 rfl rfl ?_
            refine J_iconst (pc := 76) (v := nI 1) dJ6_numberOfTrailingZeros_0f7a4_76 (by decide) ?_
            refine J_iushrN (pc := 77) dJ6_numberOfTrailingZeros_0f7a4_77 (by omega) (by decide) ?_
            have hm19 := Nat.div_le_self ((m / 2 ^ 4) / 2 ^ 2) (2 ^ 1)
            refine J_iaddN (pc := 78) dJ6_numberOfTrailingZeros_0f7a4_78 ?_
            exact J_iret (pc := 79) dJ6_numberOfTrailingZeros_0f7a4_79 rfl ⟨⟨7 + (((m / 2 ^ 4) / 2 ^ 2) / 2 ^ 1), rfl, by have e : 7 + (((m / 2 ^ 4) / 2 ^ 2) / 2 ^ 1) = t := (by rw [← hz]; unfold ntz; (first | rw [if_pos (by omega)] | rw [if_neg (by omega)]); unfold ntz0; (first | rw [if_pos (by omega)] | rw [if_neg (by omega)]); unfold ntz1; (first | rw [if_pos (by omega)] | rw [if_neg (by omega)]); unfold ntz2; (first | rw [if_pos (by omega)] | rw [if_neg (by omega)]); unfold ntz3; (first | rw [if_pos (by omega)] | rw [if_neg (by omega)]); unfold ntz4; rfl); rw [e]; exact ⟨ht, hb⟩⟩, rfl⟩
      · refine J_iincN (pc := 41) (b := 8) dJ6_numberOfTrailingZeros_0f7a4_41 rfl (by decide) (by decide) rfl ?_
        show J X mJ6_numberOfTrailingZeros_0f7a4 d kc ks 44 [some (.int (nI m)), some (.int (nI 9))] [] w _
        refine J_iload_n (pc := 44) dJ6_numberOfTrailingZeros_0f7a4_44 rfl rfl ?_
        refine J_bipush (pc := 45) (v := nI 8) dJ6_numberOfTrailingZeros_0f7a4_45 (by decide) ?_
        refine J_iushrN (pc := 47) dJ6_numberOfTrailingZeros_0f7a4_47 (by omega) (by decide) ?_
        have hm20 := Nat.div_le_self m (2 ^ 8)
        refine J_istore_n (pc := 48) dJ6_numberOfTrailingZeros_0f7a4_48 rfl (by decide) rfl ?_
        show J X mJ6_numberOfTrailingZeros_0f7a4 d kc ks 49 [some (.int (nI (m / 2 ^ 8))), some (.int (nI 9))] [] w _
        refine J_iload_n (pc := 49) dJ6_numberOfTrailingZeros_0f7a4_49 rfl rfl ?_
        refine J_bipush (pc := 50) (v := nI 16) dJ6_numberOfTrailingZeros_0f7a4_50 (by decide) ?_
        refine J_icmp_leN (pc := 52) (tgt := 62) dJ6_numberOfTrailingZeros_0f7a4_52 (by decide) (by omega) (by omega) (fun ht21 => ?_) (fun hf22 => ?_)
        · refine J_iload_n (pc := 62) dJ6_numberOfTrailingZeros_0f7a4_62 rfl rfl ?_
          refine J_iconst (pc := 63) (v := nI 4) dJ6_numberOfTrailingZeros_0f7a4_63 (by decide) ?_
          refine J_icmp_leN (pc := 64) (tgt := 74) dJ6_numberOfTrailingZeros_0f7a4_64 (by decide) (by omega) (by omega) (fun ht23 => ?_) (fun hf24 => ?_)
          · refine J_iload_n (pc := 74) dJ6_numberOfTrailingZeros_0f7a4_74 rfl rfl ?_
            refine J_iload_n (pc := 75) dJ6_numberOfTrailingZeros_0f7a4_75 rfl rfl ?_
            refine J_iconst (pc := 76) (v := nI 1) dJ6_numberOfTrailingZeros_0f7a4_76 (by decide) ?_
            refine J_iushrN (pc := 77) dJ6_numberOfTrailingZeros_0f7a4_77 (by omega) (by decide) ?_
            have hm25 := Nat.div_le_self (m / 2 ^ 8) (2 ^ 1)
            refine J_iaddN (pc := 78) dJ6_numberOfTrailingZeros_0f7a4_78 ?_
            exact J_iret (pc := 79) dJ6_numberOfTrailingZeros_0f7a4_79 rfl ⟨⟨9 + ((m / 2 ^ 8) / 2 ^ 1), rfl, by have e : 9 + ((m / 2 ^ 8) / 2 ^ 1) = t := (by rw [← hz]; unfold ntz; (first | rw [if_pos (by omega)] | rw [if_neg (by omega)]); unfold ntz0; (first | rw [if_pos (by omega)] | rw [if_neg (by omega)]); unfold ntz1; (first | rw [if_pos (by omega)] | rw [if_neg (by omega)]); unfold ntz2; (first | rw [if_pos (by omega)] | rw [if_neg (by omega)]); unfold ntz3; (first | rw [if_pos (by omega)] | rw [if_neg (by omega)]); unfold ntz4; rfl); rw [e]; exact ⟨ht, hb⟩⟩, rfl⟩
          · refine J_iincN (pc := 67) (b := 2) dJ6_numberOfTrailingZeros_0f7a4_67 rfl (by decide) (by decide) rfl ?_
            show J X mJ6_numberOfTrailingZeros_0f7a4 d kc ks 70 [some (.int (nI (m / 2 ^ 8))), some (.int (nI 11))] [] w _
            refine J_iload_n (pc := 70) dJ6_numberOfTrailingZeros_0f7a4_70 rfl rfl ?_
            refine J_iconst (pc := 71) (v := nI 2) dJ6_numberOfTrailingZeros_0f7a4_71 (by decide) ?_
            refine J_iushrN (pc := 72) dJ6_numberOfTrailingZeros_0f7a4_72 (by omega) (by decide) ?_
            have hm26 := Nat.div_le_self (m / 2 ^ 8) (2 ^ 2)
            refine J_istore_n (pc := 73) dJ6_numberOfTrailingZeros_0f7a4_73 rfl (by decide) rfl ?_
            show J X mJ6_numberOfTrailingZeros_0f7a4 d kc ks 74 [some (.int (nI ((m / 2 ^ 8) / 2 ^ 2))), some (.int (nI 11))] [] w _
            refine J_iload_n (pc := 74) dJ6_numberOfTrailingZeros_0f7a4_74 rfl rfl ?_
            refine J_iload_n (pc := 75) dJ6_numberOfTrailingZeros_0f7a4_75 rfl rfl ?_
            refine J_iconst (pc := 76) (v := nI 1) dJ6_numberOfTrailingZeros_0f7a4_76 (by decide) ?_
            refine J_iushrN (pc := 77) dJ6_numberOfTrailingZeros_0f7a4_77 (by omega) (by decide) ?_
            have hm27 := Nat.div_le_self ((m / 2 ^ 8) / 2 ^ 2) (2 ^ 1)
            refine J_iaddN (pc := 78) dJ6_numberOfTrailingZeros_0f7a4_78 ?_
            exact J_iret (pc := 79) dJ6_numberOfTrailingZeros_0f7a4_79 rfl ⟨⟨11 + (((m / 2 ^ 8) / 2 ^ 2) / 2 ^ 1), rfl, by have e : 11 + (((m / 2 ^ 8) / 2 ^ 2) / 2 ^ 1) = t := (by rw [← hz]; unfold ntz; (first | rw [if_pos (by omega)] | rw [if_neg (by omega)]); unfold ntz0; (first | rw [if_pos (by omega)] | rw [if_neg (by omega)]); unfold ntz1; (first | rw [if_pos (by omega)] | rw [if_neg (by omega)]); unfold ntz2; (first | rw [if_pos (by omega)] | rw [if_neg (by omega)]); unfold ntz3; (first | rw [if_pos (by omega)] | rw [if_neg (by omega)]); unfold ntz4; rfl); rw [e]; exact ⟨ht, hb⟩⟩, rfl⟩
        · refine J_iincN (pc := 55) (b := 4) dJ6_numberOfTrailingZeros_0f7a4_55 rfl (by decide) (by decide) rfl ?_
          show J X mJ6_numberOfTrailingZeros_0f7a4 d kc ks 58 [some (.int (nI (m / 2 ^ 8))), some (.int (nI 13))] [] w _
          refine J_iload_n (pc := 58) dJ6_numberOfTrailingZeros_0f7a4_58 rfl rfl ?_
          refine J_iconst (pc := 59) (v := nI 4) dJ6_numberOfTrailingZeros_0f7a4_59 (by decide) ?_
          refine J_iushrN (pc := 60) dJ6_numberOfTrailingZeros_0f7a4_60 (by omega) (by decide) ?_
          have hm28 := Nat.div_le_self (m / 2 ^ 8) (2 ^ 4)
          refine J_istore_n (pc := 61) dJ6_numberOfTrailingZeros_0f7a4_61 rfl (by decide) rfl ?_
          show J X mJ6_numberOfTrailingZeros_0f7a4 d kc ks 62 [some (.int (nI ((m / 2 ^ 8) / 2 ^ 4))), some (.int (nI 13))] [] w _
          refine J_iload_n (pc := 62) dJ6_numberOfTrailingZeros_0f7a4_62 rfl rfl ?_
          refine J_iconst (pc := 63) (v := nI 4) dJ6_numberOfTrailingZeros_0f7a4_63 (by decide) ?_
          refine J_icmp_leN (pc := 64) (tgt := 74) dJ6_numberOfTrailingZeros_0f7a4_64 (by decide) (by omega) (by omega) (fun ht29 => ?_) (fun hf30 => ?_)
          · refine J_iload_n (pc := 74) dJ6_numberOfTrailingZeros_0f7a4_74 rfl rfl ?_
            refine J_iload_n (pc := 75) dJ6_numberOfTrailingZeros_0f7a4_75 rfl rfl ?_
            refine J_iconst (pc := 76) (v := nI 1) dJ6_numberOfTrailingZeros_0f7a4_76 (by decide) ?_
            refine J_iushrN (pc := 77) dJ6_numberOfTrailingZeros_0f7a4_77 (by omega) (by decide) ?_
            have hm31 := Nat.div_le_self ((m / 2 ^ 8) / 2 ^ 4) (2 ^ 1)
            refine J_iaddN (pc := 78) dJ6_numberOfTrailingZeros_0f7a4_78 ?_
            exact J_iret (pc := 79) dJ6_numberOfTrailingZeros_0f7a4_79 rfl ⟨⟨13 + (((m / 2 ^ 8) / 2 ^ 4) / 2 ^ 1), rfl, by have e : 13 + (((m / 2 ^ 8) / 2 ^ 4) / 2 ^ 1) = t := (by rw [← hz]; unfold ntz; (first | rw [if_pos (by omega)] | rw [if_neg (by omega)]); unfold ntz0; (first | rw [if_pos (by omega)] | rw [if_neg (by omega)]); unfold ntz1; (first | rw [if_pos (by omega)] | rw [if_neg (by omega)]); unfold ntz2; (first | rw [if_pos (by omega)] | rw [if_neg (by omega)]); unfold ntz3; (first | rw [if_pos (by omega)] | rw [if_neg (by omega)]); unfold ntz4; rfl); rw [e]; exact ⟨ht, hb⟩⟩, rfl⟩
          · refine J_iincN (pc := 67) (b := 2) dJ6_numberOfTrailingZeros_0f7a4_67 rfl (by decide) (by decide) rfl ?_
            show J X mJ6_numberOfTrailingZeros_0f7a4 d kc ks 70 [some (.int (nI ((m / 2 ^ 8) / 2 ^ 4))), some (.int (nI 15))] [] w _
            refine J_iload_n (pc := 70) dJ6_numberOfTrailingZeros_0f7a4_70 rfl rfl ?_
            refine J_iconst (pc := 71) (v := nI 2) dJ6_numberOfTrailingZeros_0f7a4_71 (by decide) ?_
            refine J_iushrN (pc := 72) dJ6_numberOfTrailingZeros_0f7a4_72 (by omega) (by decide) ?_
            have hm32 := Nat.div_le_self ((m / 2 ^ 8) / 2 ^ 4) (2 ^ 2)
            refine J_istore_n (pc := 73) dJ6_numberOfTrailingZeros_0f7a4_73 rfl (by decide) rfl ?_
            show J X mJ6_numberOfTrailingZeros_0f7a4 d kc ks 74 [some (.int (nI (((m / 2 ^ 8) / 2 ^ 4) / 2 ^ 2))), some (.int (nI 15))] [] w _
            refine J_iload_n (pc := 74) dJ6_numberOfTrailingZeros_0f7a4_74 rfl rfl ?_
            refine J_iload_n (pc := 75) dJ6_numberOfTrailingZeros_0f7a4_75 rfl rfl ?_
            refine J_iconst (pc := 76) (v := nI 1) dJ6_numberOfTrailingZeros_0f7a4_76 (by decide) ?_
            refine J_iushrN (pc := 77) dJ6_numberOfTrailingZeros_0f7a4_77 (by omega) (by decide) ?_
            have hm33 := Nat.div_le_self (((m / 2 ^ 8) / 2 ^ 4) / 2 ^ 2) (2 ^ 1)
            refine J_iaddN (pc := 78) dJ6_numberOfTrailingZeros_0f7a4_78 ?_
            exact J_iret (pc := 79) dJ6_numberOfTrailingZeros_0f7a4_79 rfl ⟨⟨15 + ((((m / 2 ^ 8) / 2 ^ 4) / 2 ^ 2) / 2 ^ 1), rfl, by have e : 15 + ((((m / 2 ^ 8) / 2 ^ 4) / 2 ^ 2) / 2 ^ 1) = t := (by rw [← hz]; unfold ntz; (first | rw [if_pos (by omega)] | rw [if_neg (by omega)]); unfold ntz0; (first | rw [if_pos (by omega)] | rw [if_neg (by omega)]); unfold ntz1; (first | rw [if_pos (by omega)] | rw [if_neg (by omega)]); unfold ntz2; (first | rw [if_pos (by omega)] | rw [if_neg (by omega)]); unfold ntz3; (first | rw [if_pos (by omega)] | rw [if_neg (by omega)]); unfold ntz4; rfl); rw [e]; exact ⟨ht, hb⟩⟩, rfl⟩
    · refine J_iincN (pc := 26) (b := 16) dJ6_numberOfTrailingZeros_0f7a4_26 rfl (by decide) (by decide) rfl ?_
      show J X mJ6_numberOfTrailingZeros_0f7a4 d kc ks 29 [some (.int (nI m)), some (.int (nI 17))] [] w _
      refine J_iload_n (pc := 29) dJ6_numberOfTrailingZeros_0f7a4_29 rfl rfl ?_
      refine J_bipush (pc := 30) (v := nI 16) dJ6_numberOfTrailingZeros_0f7a4_30 (by decide) ?_
      refine J_iushrN (pc := 32) dJ6_numberOfTrailingZeros_0f7a4_32 (by omega) (by decide) ?_
      have hm34 := Nat.div_le_self m (2 ^ 16)
      refine J_istore_n (pc := 33) dJ6_numberOfTrailingZeros_0f7a4_33 rfl (by decide) rfl ?_
      show J X mJ6_numberOfTrailingZeros_0f7a4 d kc ks 34 [some (.int (nI (m / 2 ^ 16))), some (.int (nI 17))] [] w _
      refine J_iload_n (pc := 34) dJ6_numberOfTrailingZeros_0f7a4_34 rfl rfl ?_
      refine J_sipush (pc := 35) (v := nI 256) dJ6_numberOfTrailingZeros_0f7a4_35 (by decide) ?_
      refine J_icmp_leN (pc := 38) (tgt := 49) dJ6_numberOfTrailingZeros_0f7a4_38 (by decide) (by omega) (by omega) (fun ht35 => ?_) (fun hf36 => ?_)
      · refine J_iload_n (pc := 49) dJ6_numberOfTrailingZeros_0f7a4_49 rfl rfl ?_
        refine J_bipush (pc := 50) (v := nI 16) dJ6_numberOfTrailingZeros_0f7a4_50 (by decide) ?_
        refine J_icmp_leN (pc := 52) (tgt := 62) dJ6_numberOfTrailingZeros_0f7a4_52 (by decide) (by omega) (by omega) (fun ht37 => ?_) (fun hf38 => ?_)
        · refine J_iload_n (pc := 62) dJ6_numberOfTrailingZeros_0f7a4_62 rfl rfl ?_
          refine J_iconst (pc := 63) (v := nI 4) dJ6_numberOfTrailingZeros_0f7a4_63 (by decide) ?_
          refine J_icmp_leN (pc := 64) (tgt := 74) dJ6_numberOfTrailingZeros_0f7a4_64 (by decide) (by omega) (by omega) (fun ht39 => ?_) (fun hf40 => ?_)
          · refine J_iload_n (pc := 74) dJ6_numberOfTrailingZeros_0f7a4_74 rfl rfl ?_
            refine J_iload_n (pc := 75) dJ6_numberOfTrailingZeros_0f7a4_75 rfl rfl ?_
            refine J_iconst (pc := 76) (v := nI 1) dJ6_numberOfTrailingZeros_0f7a4_76 (by decide) ?_
            refine J_iushrN (pc := 77) dJ6_numberOfTrailingZeros_0f7a4_77 (by omega) (by decide) ?_
            have hm41 := Nat.div_le_self (m / 2 ^ 16) (2 ^ 1)
            refine J_iaddN (pc := 78) dJ6_numberOfTrailingZeros_0f7a4_78 ?_
            exact J_iret (pc := 79) dJ6_numberOfTrailingZeros_0f7a4_79 rfl ⟨⟨17 + ((m / 2 ^ 16) / 2 ^ 1), rfl, by have e : 17 + ((m / 2 ^ 16) / 2 ^ 1) = t := (by rw [← hz]; unfold ntz; (first | rw [if_pos (by omega)] | rw [if_neg (by omega)]); unfold ntz0; (first | rw [if_pos (by omega)] | rw [if_neg (by omega)]); unfold ntz1; (first | rw [if_pos (by omega)] | rw [if_neg (by omega)]); unfold ntz2; (first | rw [if_pos (by omega)] | rw [if_neg (by omega)]); unfold ntz3; (first | rw [if_pos (by omega)] | rw [if_neg (by omega)]); unfold ntz4; rfl); rw [e]; exact ⟨ht, hb⟩⟩, rfl⟩
          · refine J_iincN (pc := 67) (b := 2) dJ6_numberOfTrailingZeros_0f7a4_67 rfl (by decide) (by decide) rfl ?_
            show J X mJ6_numberOfTrailingZeros_0f7a4 d kc ks 70 [some (.int (nI (m / 2 ^ 16))), some (.int (nI 19))] [] w _
            refine J_iload_n (pc := 70) dJ6_numberOfTrailingZeros_0f7a4_70 rfl rfl ?_
            refine J_iconst (pc := 71) (v := nI 2) dJ6_numberOfTrailingZeros_0f7a4_71 (by decide) ?_
            refine J_iushrN (pc := 72) dJ6_numberOfTrailingZeros_0f7a4_72 (by omega) (by decide) ?_
            have hm42 := Nat.div_le_self (m / 2 ^ 16) (2 ^ 2)
            refine J_istore_n (pc := 73) dJ6_numberOfTrailingZeros_0f7a4_73 rfl (by decide) rfl ?_
            show J X mJ6_numberOfTrailingZeros_0f7a4 d kc ks 74 [some (.int (nI ((m / 2 ^ 16) / 2 ^ 2))), some (.int (nI 19))] [] w _
            refine J_iload_n (pc := 74) dJ6_numberOfTrailingZeros_0f7a4_74 rfl rfl ?_
            refine J_iload_n (pc := 75) dJ6_numberOfTrailingZeros_0f7a4_75 rfl rfl ?_
            refine J_iconst (pc := 76) (v := nI 1) dJ6_numberOfTrailingZeros_0f7a4_76 (by decide) ?_
            refine J_iushrN (pc := 77) dJ6_numberOfTrailingZeros_0f7a4_77 (by omega) (by decide) ?_
            have hm43 := Nat.div_le_self ((m / 2 ^ 16) / 2 ^ 2) (2 ^ 1)
            refine J_iaddN (pc := 78) dJ6_numberOfTrailingZeros_0f7a4_78 ?_
            exact J_iret (pc := 79) dJ6_numberOfTrailingZeros_0f7a4_79 rfl ⟨⟨19 + (((m / 2 ^ 16) / 2 ^ 2) / 2 ^ 1), rfl, by have e : 19 + (((m / 2 ^ 16) / 2 ^ 2) / 2 ^ 1) = t := (by rw [← hz]; unfold ntz; (first | rw [if_pos (by omega)] | rw [if_neg (by omega)]); unfold ntz0; (first | rw [if_pos (by omega)] | rw [if_neg (by omega)]); unfold ntz1; (first | rw [if_pos (by omega)] | rw [if_neg (by omega)]); unfold ntz2; (first | rw [if_pos (by omega)] | rw [if_neg (by omega)]); unfold ntz3; (first | rw [if_pos (by omega)] | rw [if_neg (by omega)]); unfold ntz4; rfl); rw [e]; exact ⟨ht, hb⟩⟩, rfl⟩
        · refine J_iincN (pc := 55) (b := 4) dJ6_numberOfTrailingZeros_0f7a4_55 rfl (by decide) (by decide) rfl ?_
          show J X mJ6_numberOfTrailingZeros_0f7a4 d kc ks 58 [some (.int (nI (m / 2 ^ 16))), some (.int (nI 21))] [] w _
          refine J_iload_n (pc := 58) dJ6_numberOfTrailingZeros_0f7a4_58 rfl rfl ?_
          refine J_iconst (pc := 59) (v := nI 4) dJ6_numberOfTrailingZeros_0f7a4_59 (by decide) ?_
          refine J_iushrN (pc := 60) dJ6_numberOfTrailingZeros_0f7a4_60 (by omega) (by decide) ?_
          have hm44 := Nat.div_le_self (m / 2 ^ 16) (2 ^ 4)
          refine J_istore_n (pc := 61) dJ6_numberOfTrailingZeros_0f7a4_61 rfl (by decide) rfl ?_
          show J X mJ6_numberOfTrailingZeros_0f7a4 d kc ks 62 [some (.int (nI ((m / 2 ^ 16) / 2 ^ 4))), some (.int (nI 21))] [] w _
          refine J_iload_n (pc := 62) dJ6_numberOfTrailingZeros_0f7a4_62 rfl rfl ?_
          refine J_iconst (pc := 63) (v := nI 4) dJ6_numberOfTrailingZeros_0f7a4_63 (by decide) ?_
          refine J_icmp_leN (pc := 64) (tgt := 74) dJ6_numberOfTrailingZeros_0f7a4_64 (by decide) (by omega) (by omega) (fun ht45 => ?_) (fun hf46 => ?_)
          · refine J_iload_n (pc := 74) dJ6_numberOfTrailingZeros_0f7a4_74 rfl rfl ?_
            refine J_iload_n (pc := 75) dJ6_numberOfTrailingZeros_0f7a4_75 rfl rfl ?_
            refine J_iconst (pc := 76) (v := nI 1) dJ6_numberOfTrailingZeros_0f7a4_76 (by decide) ?_
            refine J_iushrN (pc := 77) dJ6_numberOfTrailingZeros_0f7a4_77 (by omega) (by decide) ?_
            have hm47 := Nat.div_le_self ((m / 2 ^ 16) / 2 ^ 4) (2 ^ 1)
            refine J_iaddN (pc := 78) dJ6_numberOfTrailingZeros_0f7a4_78 ?_
            exact J_iret (pc := 79) dJ6_numberOfTrailingZeros_0f7a4_79 rfl ⟨⟨21 + (((m / 2 ^ 16) / 2 ^ 4) / 2 ^ 1), rfl, by have e : 21 + (((m / 2 ^ 16) / 2 ^ 4) / 2 ^ 1) = t := (by rw [← hz]; unfold ntz; (first | rw [if_pos (by omega)] | rw [if_neg (by omega)]); unfold ntz0; (first | rw [if_pos (by omega)] | rw [if_neg (by omega)]); unfold ntz1; (first | rw [if_pos (by omega)] | rw [if_neg (by omega)]); unfold ntz2; (first | rw [if_pos (by omega)] | rw [if_neg (by omega)]); unfold ntz3; (first | rw [if_pos (by omega)] | rw [if_neg (by omega)]); unfold ntz4; rfl); rw [e]; exact ⟨ht, hb⟩⟩, rfl⟩
          · refine J_iincN (pc := 67) (b := 2) dJ6_numberOfTrailingZeros_0f7a4_67 rfl (by decide) (by decide) rfl ?_
            show J X mJ6_numberOfTrailingZeros_0f7a4 d kc ks 70 [some (.int (nI ((m / 2 ^ 16) / 2 ^ 4))), some (.int (nI 23))] [] w _
            refine J_iload_n (pc := 70) dJ6_numberOfTrailingZeros_0f7a4_70 rfl rfl ?_
            refine J_iconst (pc := 71) (v := nI 2) dJ6_numberOfTrailingZeros_0f7a4_71 (by decide) ?_
            refine J_iushrN (pc := 72) dJ6_numberOfTrailingZeros_0f7a4_72 (by omega) (by decide) ?_
            have hm48 := Nat.div_le_self ((m / 2 ^ 16) / 2 ^ 4) (2 ^ 2)
            refine J_istore_n (pc := 73) dJ6_numberOfTrailingZeros_0f7a4_73 rfl (by decide) rfl ?_
            show J X mJ6_numberOfTrailingZeros_0f7a4 d kc ks 74 [some (.int (nI (((m / 2 ^ 16) / 2 ^ 4) / 2 ^ 2))), some (.int (nI 23))] [] w _
            refine J_iload_n (pc := 74) dJ6_numberOfTrailingZeros_0f7a4_74 rfl rfl ?_
            refine J_iload_n (pc := 75) dJ6_numberOfTrailingZeros_0f7a4_75 rfl rfl ?_
            refine J_iconst (pc := 76) (v := nI 1) dJ6_numberOfTrailingZeros_0f7a4_76 (by decide) ?_
            refine J_iushrN (pc := 77) dJ6_numberOfTrailingZeros_0f7a4_77 (by omega) (by decide) ?_
            have hm49 := Nat.div_le_self (((m / 2 ^ 16) / 2 ^ 4) / 2 ^ 2) (2 ^ 1)
            refine J_iaddN (pc := 78) dJ6_numberOfTrailingZeros_0f7a4_78 ?_
            exact J_iret (pc := 79) dJ6_numberOfTrailingZeros_0f7a4_79 rfl ⟨⟨23 + ((((m / 2 ^ 16) / 2 ^ 4) / 2 ^ 2) / 2 ^ 1), rfl, by have e : 23 + ((((m / 2 ^ 16) / 2 ^ 4) / 2 ^ 2) / 2 ^ 1) = t := (by rw [← hz]; unfold ntz; (first | rw [if_pos (by omega)] | rw [if_neg (by omega)]); unfold ntz0; (first | rw [if_pos (by omega)] | rw [if_neg (by omega)]); unfold ntz1; (first | rw [if_pos (by omega)] | rw [if_neg (by omega)]); unfold ntz2; (first | rw [if_pos (by omega)] | rw [if_neg (by omega)]); unfold ntz3; (first | rw [if_pos (by omega)] | rw [if_neg (by omega)]); unfold ntz4; rfl); rw [e]; exact ⟨ht, hb⟩⟩, rfl⟩
      · refine J_iincN (pc := 41) (b := 8) dJ6_numberOfTrailingZeros_0f7a4_41 rfl (by decide) (by decide) rfl ?_
        show J X mJ6_numberOfTrailingZeros_0f7a4 d kc ks 44 [some (.int (nI (m / 2 ^ 16))), some (.int (nI 25))] [] w _
        refine J_iload_n (pc := 44) dJ6_numberOfTrailingZeros_0f7a4_44 rfl rfl ?_
        refine J_bipush (pc := 45) (v := nI 8) dJ6_numberOfTrailingZeros_0f7a4_45 (by decide) ?_
        refine J_iushrN (pc := 47) dJ6_numberOfTrailingZeros_0f7a4_47 (by omega) (by decide) ?_
        have hm50 := Nat.div_le_self (m / 2 ^ 16) (2 ^ 8)
        refine J_istore_n (pc := 48) dJ6_numberOfTrailingZeros_0f7a4_48 rfl (by decide) rfl ?_
        show J X mJ6_numberOfTrailingZeros_0f7a4 d kc ks 49 [some (.int (nI ((m / 2 ^ 16) / 2 ^ 8))), some (.int (nI 25))] [] w _
        refine J_iload_n (pc := 49) dJ6_numberOfTrailingZeros_0f7a4_49 rfl rfl ?_
        refine J_bipush (pc := 50) (v := nI 16) dJ6_numberOfTrailingZeros_0f7a4_50 (by decide) ?_
        refine J_icmp_leN (pc := 52) (tgt := 62) dJ6_numberOfTrailingZeros_0f7a4_52 (by decide) (by omega) (by omega) (fun ht51 => ?_) (fun hf52 => ?_)
        · refine J_iload_n (pc := 62) dJ6_numberOfTrailingZeros_0f7a4_62 rfl rfl ?_
          refine J_iconst (pc := 63) (v := nI 4) dJ6_numberOfTrailingZeros_0f7a4_63 (by decide) ?_
          refine J_icmp_leN (pc := 64) (tgt := 74) dJ6_numberOfTrailingZeros_0f7a4_64 (by decide) (by omega) (by omega) (fun ht53 => ?_) (fun hf54 => ?_)
          · refine J_iload_n (pc := 74) dJ6_numberOfTrailingZeros_0f7a4_74 rfl rfl ?_
            refine J_iload_n (pc := 75) dJ6_numberOfTrailingZeros_0f7a4_75 rfl rfl ?_
            refine J_iconst (pc := 76) (v := nI 1) dJ6_numberOfTrailingZeros_0f7a4_76 (by decide) ?_
            refine J_iushrN (pc := 77) dJ6_numberOfTrailingZeros_0f7a4_77 (by omega) (by decide) ?_
            have hm55 := Nat.div_le_self ((m / 2 ^ 16) / 2 ^ 8) (2 ^ 1)
            refine J_iaddN (pc := 78) dJ6_numberOfTrailingZeros_0f7a4_78 ?_
            exact J_iret (pc := 79) dJ6_numberOfTrailingZeros_0f7a4_79 rfl ⟨⟨25 + (((m / 2 ^ 16) / 2 ^ 8) / 2 ^ 1), rfl, by have e : 25 + (((m / 2 ^ 16) / 2 ^ 8) / 2 ^ 1) = t := (by rw [← hz]; unfold ntz; (first | rw [if_pos (by omega)] | rw [if_neg (by omega)]); unfold ntz0; (first | rw [if_pos (by omega)] | rw [if_neg (by omega)]); unfold ntz1; (first | rw [if_pos (by omega)] | rw [if_neg (by omega)]); unfold ntz2; (first | rw [if_pos (by omega)] | rw [if_neg (by omega)]); unfold ntz3; (first | rw [if_pos (by omega)] | rw [if_neg (by omega)]); unfold ntz4; rfl); rw [e]; exact ⟨ht, hb⟩⟩, rfl⟩
          · refine J_iincN (pc := 67) (b := 2) dJ6_numberOfTrailingZeros_0f7a4_67 rfl (by decide) (by decide) rfl ?_
            show J X mJ6_numberOfTrailingZeros_0f7a4 d kc ks 70 [some (.int (nI ((m / 2 ^ 16) / 2 ^ 8))), some (.int (nI 27))] [] w _
            refine J_iload_n (pc := 70) dJ6_numberOfTrailingZeros_0f7a4_70 rfl rfl ?_
            refine J_iconst (pc := 71) (v := nI 2) dJ6_numberOfTrailingZeros_0f7a4_71 (by decide) ?_
            refine J_iushrN (pc := 72) dJ6_numberOfTrailingZeros_0f7a4_72 (by omega) (by decide) ?_
            have hm56 := Nat.div_le_self ((m / 2 ^ 16) / 2 ^ 8) (2 ^ 2)
            refine J_istore_n (pc := 73) dJ6_numberOfTrailingZeros_0f7a4_73 rfl (by decide) rfl ?_
            show J X mJ6_numberOfTrailingZeros_0f7a4 d kc ks 74 [some (.int (nI (((m / 2 ^ 16) / 2 ^ 8) / 2 ^ 2))), some (.int (nI 27))] [] w _
            refine J_iload_n (pc := 74) dJ6_numberOfTrailingZeros_0f7a4_74 rfl rfl ?_
            refine J_iload_n (pc := 75) dJ6_numberOfTrailingZeros_0f7a4_75 rfl rfl ?_
            refine J_iconst (pc := 76) (v := nI 1) dJ6_numberOfTrailingZeros_0f7a4_76 (by decide) ?_
            refine J_iushrN (pc := 77) dJ6_numberOfTrailingZeros_0f7a4_77 (by omega) (by decide) ?_
            have hm57 := Nat.div_le_self (((m / 2 ^ 16) / 2 ^ 8) / 2 ^ 2) (2 ^ 1)
            refine J_iaddN (pc := 78) dJ6_numberOfTrailingZeros_0f7a4_78 ?_
            exact J_iret (pc := 79) dJ6_numberOfTrailingZeros_0f7a4_79 rfl ⟨⟨27 + ((((m / 2 ^ 16) / 2 ^ 8) / 2 ^ 2) / 2 ^ 1), rfl, by have e : 27 + ((((m / 2 ^ 16) / 2 ^ 8) / 2 ^ 2) / 2 ^ 1) = t := (by rw [← hz]; unfold ntz; (first | rw [if_pos (by omega)] | rw [if_neg (by omega)]); unfold ntz0; (first | rw [if_pos (by omega)] | rw [if_neg (by omega)]); unfold ntz1; (first | rw [if_pos (by omega)] | rw [if_neg (by omega)]); unfold ntz2; (first | rw [if_pos (by omega)] | rw [if_neg (by omega)]); unfold ntz3; (first | rw [if_pos (by omega)] | rw [if_neg (by omega)]); unfold ntz4; rfl); rw [e]; exact ⟨ht, hb⟩⟩, rfl⟩
        · refine J_iincN (pc := 55) (b := 4) dJ6_numberOfTrailingZeros_0f7a4_55 rfl (by decide) (by decide) rfl ?_
          show J X mJ6_numberOfTrailingZeros_0f7a4 d kc ks 58 [some (.int (nI ((m / 2 ^ 16) / 2 ^ 8))), some (.int (nI 29))] [] w _
          refine J_iload_n (pc := 58) dJ6_numberOfTrailingZeros_0f7a4_58 rfl rfl ?_
          refine J_iconst (pc := 59) (v := nI 4) dJ6_numberOfTrailingZeros_0f7a4_59 (by decide) ?_
          refine J_iushrN (pc := 60) dJ6_numberOfTrailingZeros_0f7a4_60 (by omega) (by decide) ?_
          have hm58 := Nat.div_le_self ((m / 2 ^ 16) / 2 ^ 8) (2 ^ 4)
          refine J_istore_n (pc := 61) dJ6_numberOfTrailingZeros_0f7a4_61 rfl (by decide) rfl ?_
          show J X mJ6_numberOfTrailingZeros_0f7a4 d kc ks 62 [some (.int (nI (((m / 2 ^ 16) / 2 ^ 8) / 2 ^ 4))), some (.int (nI 29))] [] w _
          refine J_iload_n (pc := 62) dJ6_numberOfTrailingZeros_0f7a4_62 rfl rfl ?_
          refine J_iconst (pc := 63) (v := nI 4) dJ6_numberOfTrailingZeros_0f7a4_63 (by decide) ?_
          refine J_icmp_leN (pc := 64) (tgt := 74) dJ6_numberOfTrailingZeros_0f7a4_64 (by decide) (by omega) (by omega) (fun ht59 => ?_) (fun hf60 => ?_)
          · refine J_iload_n (pc := 74) dJ6_numberOfTrailingZeros_0f7a4_74 rfl rfl ?_
            refine J_iload_n (pc := 75) dJ6_numberOfTrailingZeros_0f7a4_75 rfl rfl ?_
            refine J_iconst (pc := 76) (v := nI 1) dJ6_numberOfTrailingZeros_0f7a4_76 (by decide) ?_
            refine J_iushrN (pc := 77) dJ6_numberOfTrailingZeros_0f7a4_77 (by omega) (by decide) ?_
            have hm61 := Nat.div_le_self (((m / 2 ^ 16) / 2 ^ 8) / 2 ^ 4) (2 ^ 1)
            refine J_iaddN (pc := 78) dJ6_numberOfTrailingZeros_0f7a4_78 ?_
            exact J_iret (pc := 79) dJ6_numberOfTrailingZeros_0f7a4_79 rfl ⟨⟨29 + ((((m / 2 ^ 16) / 2 ^ 8) / 2 ^ 4) / 2 ^ 1), rfl, by have e : 29 + ((((m / 2 ^ 16) / 2 ^ 8) / 2 ^ 4) / 2 ^ 1) = t := (by rw [← hz]; unfold ntz; (first | rw [if_pos (by omega)] | rw [if_neg (by omega)]); unfold ntz0; (first | rw [if_pos (by omega)] | rw [if_neg (by omega)]); unfold ntz1; (first | rw [if_pos (by omega)] | rw [if_neg (by omega)]); unfold ntz2; (first | rw [if_pos (by omega)] | rw [if_neg (by omega)]); unfold ntz3; (first | rw [if_pos (by omega)] | rw [if_neg (by omega)]); unfold ntz4; rfl); rw [e]; exact ⟨ht, hb⟩⟩, rfl⟩
          · refine J_iincN (pc := 67) (b := 2) dJ6_numberOfTrailingZeros_0f7a4_67 rfl (by decide) (by decide) rfl ?_
            show J X mJ6_numberOfTrailingZeros_0f7a4 d kc ks 70 [some (.int (nI (((m / 2 ^ 16) / 2 ^ 8) / 2 ^ 4))), some (.int (nI 31))] [] w _
            refine J_iload_n (pc := 70) dJ6_numberOfTrailingZeros_0f7a4_70 rfl rfl ?_
            refine J_iconst (pc := 71) (v := nI 2) dJ6_numberOfTrailingZeros_0f7a4_71 (by decide) ?_
            refine J_iushrN (pc := 72) dJ6_numberOfTrailingZeros_0f7a4_72 (by omega) (by decide) ?_
            have hm62 := Nat.div_le_self (((m / 2 ^ 16) / 2 ^ 8) / 2 ^ 4) (2 ^ 2)
            refine J_istore_n (pc := 73) dJ6_numberOfTrailingZeros_0f7a4_73 rfl (by decide) rfl ?_
            show J X mJ6_numberOfTrailingZeros_0f7a4 d kc ks 74 [some (.int (nI ((((m / 2 ^ 16) / 2 ^ 8) / 2 ^ 4) / 2 ^ 2))), some (.int (nI 31))] [] w _
            refine J_iload_n (pc := 74) dJ6_numberOfTrailingZeros_0f7a4_74 rfl rfl ?_
            refine J_iload_n (pc := 75) dJ6_numberOfTrailingZeros_0f7a4_75 rfl rfl ?_
            refine J_iconst (pc := 76) (v := nI 1) dJ6_numberOfTrailingZeros_0f7a4_76 (by decide) ?_
            refine J_iushrN (pc := 77) dJ6_numberOfTrailingZeros_0f7a4_77 (by omega) (by decide) ?_
            have hm63 := Nat.div_le_self ((((m / 2 ^ 16) / 2 ^ 8) / 2 ^ 4) / 2 ^ 2) (2 ^ 1)
            refine J_iaddN (pc := 78) dJ6_numberOfTrailingZeros_0f7a4_78 ?_
            exact J_iret (pc := 79) dJ6_numberOfTrailingZeros_0f7a4_79 rfl ⟨⟨31 + (((((m / 2 ^ 16) / 2 ^ 8) / 2 ^ 4) / 2 ^ 2) / 2 ^ 1), rfl, by have e : 31 + (((((m / 2 ^ 16) / 2 ^ 8) / 2 ^ 4) / 2 ^ 2) / 2 ^ 1) = t := (by rw [← hz]; unfold ntz; (first | rw [if_pos (by omega)] | rw [if_neg (by omega)]); unfold ntz0; (first | rw [if_pos (by omega)] | rw [if_neg (by omega)]); unfold ntz1; (first | rw [if_pos (by omega)] | rw [if_neg (by omega)]); unfold ntz2; (first | rw [if_pos (by omega)] | rw [if_neg (by omega)]); unfold ntz3; (first | rw [if_pos (by omega)] | rw [if_neg (by omega)]); unfold ntz4; rfl); rw [e]; exact ⟨ht, hb⟩⟩, rfl⟩
  · obtain rfl : m = 0 := by assumption
    refine J_iload_n (pc := 12) dJ6_numberOfTrailingZeros_0f7a4_12 rfl rfl ?_
    refine J_bipush (pc := 13) (v := nI 32) dJ6_numberOfTrailingZeros_0f7a4_13 (by decide) ?_
    refine J_iand (pc := 15) dJ6_numberOfTrailingZeros_0f7a4_15 ?_
    rw [show nI 0 &&& nI 32 = nI 0 by decide]
    exact J_iret (pc := 16) dJ6_numberOfTrailingZeros_0f7a4_16 rfl ⟨⟨0, rfl, by have e : 0 = t := (by rw [← hz]; decide); rw [e]; exact ⟨ht, hb⟩⟩, rfl⟩
set_option maxRecDepth 100000 in
set_option maxHeartbeats 4000000 in
theorem c_J6_bitCount_0f7a4_atx {X : jX} (hs : X.1.stackTraces = false) {d : Nat} (hd : 0 ≤ d) {w : List jC} (a : Int32) {kc ks : Nat} : jMet X mJ6_bitCount_0f7a4 d kc ks [.int a] w (pI (fun v => v = nI (pc32 a)) (fun w' => w' = w)) := by
  refine jMet_of hs (by decide +kernel) (Nat.le_of_ble_eq_true rfl) (L := [some (.int a)]) rfl ?_
  obtain ⟨x, hx, rfl⟩ : ∃ x, x < 2 ^ 32 ∧ a = nI x := ⟨_, a.toBitVec.isLt, nI_self a⟩
  obtain ⟨hle, y, hy, hy28, hfin⟩ := bc_all hx
  refine J_iload_n (pc := 0) dJ6_bitCount_0f7a4_0 rfl rfl ?_
  refine J_iload_n (pc := 1) dJ6_bitCount_0f7a4_1 rfl rfl ?_
  refine J_iconst (pc := 2) (v := nI 1) dJ6_bitCount_0f7a4_2 (by decide) ?_
  refine J_iushrM (pc := 3) dJ6_bitCount_0f7a4_3 (by omega) (by decide) ?_
  have hm1 := Nat.div_le_self x (2 ^ 1)
  refine J_ldcw (pc := 4) (v := nI 1431655765) dJ6_bitCount_0f7a4_4 (by have := fk_J6_265; exact this) ?_
  have hm2 : (x / 2 ^ 1) &&& 1431655765 ≤ 1431655765 := Nat.and_le_right
  refine J_iandM (pc := 7) dJ6_bitCount_0f7a4_7 (by omega) (by decide) ?_
  refine J_isubN (pc := 8) dJ6_bitCount_0f7a4_8 (by omega) ?_
  refine J_istore_n (pc := 9) dJ6_bitCount_0f7a4_9 rfl (by decide) rfl ?_
  show J X mJ6_bitCount_0f7a4 d kc ks 10 [some (.int (nI (x - ((x / 2 ^ 1) &&& 1431655765))))] [] w _
  show J X mJ6_bitCount_0f7a4 d kc ks _ [some (.int (nI (bc1 x)))] [] w _
  have h10 : bc1 x ≤ x := Nat.sub_le _ _
  refine J_iload_n (pc := 10) dJ6_bitCount_0f7a4_10 rfl rfl ?_
  refine J_ldcw (pc := 11) (v := nI 858993459) dJ6_bitCount_0f7a4_11 (by have := fk_J6_266; exact this) ?_
  have hm3 : (bc1 x) &&& 858993459 ≤ 858993459 := Nat.and_le_right
  refine J_iandM (pc := 14) dJ6_bitCount_0f7a4_14 (by omega) (by decide) ?_
  refine J_iload_n (pc := 15) dJ6_bitCount_0f7a4_15 rfl rfl ?_
  refine J_iconst (pc := 16) (v := nI 2) dJ6_bitCount_0f7a4_16 (by decide) ?_
  refine J_iushrM (pc := 17) dJ6_bitCount_0f7a4_17 (by omega) (by decide) ?_
  have hm4 := Nat.div_le_self (bc1 x) (2 ^ 2)
  refine J_ldcw (pc := 18) (v := nI 858993459) dJ6_bitCount_0f7a4_18 (by have := fk_J6_266; exact this) ?_
  have hm5 : ((bc1 x) / 2 ^ 2) &&& 858993459 ≤ 858993459 := Nat.and_le_right
  refine J_iandM (pc := 21) dJ6_bitCount_0f7a4_21 (by omega) (by decide) ?_
  refine J_iaddN (pc := 22) dJ6_bitCount_0f7a4_22 ?_
  refine J_istore_n (pc := 23) dJ6_bitCount_0f7a4_23 rfl (by decide) rfl ?_
  show J X mJ6_bitCount_0f7a4 d kc ks 24 [some (.int (nI (((bc1 x) &&& 858993459) + (((bc1 x) / 2 ^ 2) &&& 858993459))))] [] w _
  show J X mJ6_bitCount_0f7a4 d kc ks _ [some (.int (nI (bc2 (bc1 x))))] [] w _
  have h24 : bc2 (bc1 x) ≤ 2000000000 := by unfold bc2; omega
  refine J_iload_n (pc := 24) dJ6_bitCount_0f7a4_24 rfl rfl ?_
  refine J_iload_n (pc := 25) dJ6_bitCount_0f7a4_25 rfl rfl ?_
  refine J_iconst (pc := 26) (v := nI 4) dJ6_bitCount_0f7a4_26 (by decide) ?_
  refine J_iushrM (pc := 27) dJ6_bitCount_0f7a4_27 (by omega) (by decide) ?_
  have hm6 := Nat.div_le_self (bc2 (bc1 x)) (2 ^ 4)
  refine J_iaddN (pc := 28) dJ6_bitCount_0f7a4_28 ?_
  refine J_ldcw (pc := 29) (v := nI 252645135) dJ6_bitCount_0f7a4_29 (by have := fk_J6_267; exact this) ?_
  have hm7 : (bc2 (bc1 x) + ((bc2 (bc1 x)) / 2 ^ 4)) &&& 252645135 ≤ 252645135 := Nat.and_le_right
  refine J_iandM (pc := 32) dJ6_bitCount_0f7a4_32 (by omega) (by decide) ?_
  refine J_istore_n (pc := 33) dJ6_bitCount_0f7a4_33 rfl (by decide) rfl ?_
  show J X mJ6_bitCount_0f7a4 d kc ks 34 [some (.int (nI ((bc2 (bc1 x) + ((bc2 (bc1 x)) / 2 ^ 4)) &&& 252645135)))] [] w _
  show J X mJ6_bitCount_0f7a4 d kc ks _ [some (.int (nI (bc3 (bc2 (bc1 x)))))] [] w _
  rw [hy]
  refine J_iload_n (pc := 34) dJ6_bitCount_0f7a4_34 rfl rfl ?_
  refine J_iload_n (pc := 35) dJ6_bitCount_0f7a4_35 rfl rfl ?_
  refine J_bipush (pc := 36) (v := nI 8) dJ6_bitCount_0f7a4_36 (by decide) ?_
  refine J_iushrM (pc := 38) dJ6_bitCount_0f7a4_38 (by omega) (by decide) ?_
  have hm8 := Nat.div_le_self y (2 ^ 8)
  refine J_iaddN (pc := 39) dJ6_bitCount_0f7a4_39 ?_
  refine J_istore_n (pc := 40) dJ6_bitCount_0f7a4_40 rfl (by decide) rfl ?_
  show J X mJ6_bitCount_0f7a4 d kc ks 41 [some (.int (nI (y + (y / 2 ^ 8))))] [] w _
  refine J_iload_n (pc := 41) dJ6_bitCount_0f7a4_41 rfl rfl ?_
  refine J_iload_n (pc := 42) dJ6_bitCount_0f7a4_42 rfl rfl ?_
  refine J_bipush (pc := 43) (v := nI 16) dJ6_bitCount_0f7a4_43 (by decide) ?_
  refine J_iushrM (pc := 45) dJ6_bitCount_0f7a4_45 (by omega) (by decide) ?_
  have hm9 := Nat.div_le_self (y + (y / 2 ^ 8)) (2 ^ 16)
  refine J_iaddN (pc := 46) dJ6_bitCount_0f7a4_46 ?_
  refine J_istore_n (pc := 47) dJ6_bitCount_0f7a4_47 rfl (by decide) rfl ?_
  show J X mJ6_bitCount_0f7a4 d kc ks 48 [some (.int (nI ((y + (y / 2 ^ 8)) + ((y + (y / 2 ^ 8)) / 2 ^ 16))))] [] w _
  refine J_iload_n (pc := 48) dJ6_bitCount_0f7a4_48 rfl rfl ?_
  refine J_bipush (pc := 49) (v := nI 63) dJ6_bitCount_0f7a4_49 (by decide) ?_
  refine J_iandN (pc := 51) 6 dJ6_bitCount_0f7a4_51 (by omega) (by decide) ?_
  exact J_iret (pc := 52) dJ6_bitCount_0f7a4_52 rfl ⟨(congrArg nI (by rw [pc32_nI hx]; exact hfin)), rfl⟩
set_option maxRecDepth 100000 in
set_option maxHeartbeats 4000000 in
theorem c_X8_isBit {X : jX} (hs : X.1.stackTraces = false) {d : Nat} (hd : 0 ≤ d) {n : Nat} {mv rw nx : Nat → Nat} {b : Nat} {bt : List Int32} {kn en dn rf kk th : Int32} {w : List jC} (hR : RM n mv rw nx b bt kn en dn rf kk th w) (hn1 : 2 ≤ n) (hn2 : n ≤ 7) (gm : ∀ i, mv i < 7) (gr : ∀ i, rw i < 7) (gx : ∀ i, nx i < 7) (k : Nat) (hy0 : k < 5056) {kc ks : Nat} : jMet X mX8_isBit d kc ks [.ref 19, .int (nI k)] w (pI (fun v => (v = nI 0 ∧ bitL bt k = false) ∨ (v = nI 1 ∧ bitL bt k = true)) (fun w' => w' = w)) := by
  refine jMet_of hs (by decide +kernel) (Nat.le_of_ble_eq_true rfl) (L := [some (.ref 19), some (.int (nI k))]) rfl ?_
  have hfc := fc_7 hn2
  have hfp := fc_pos n
  obtain ⟨h19, h20, h21, h22, hbb, hbl, hb3⟩ := hR
  have hF : FR b b w w := FR.rf
  refine J_aload_n (pc := 0) dX8_isBit_0 rfl rfl rfl ?_
  refine J_get (pc := 1) (k := 4) dX8_isBit_1 kC9 (by decide) ff_X8_23 h19 rfl ?_
  refine J_iload_n (pc := 4) dX8_isBit_4 rfl rfl ?_
  refine J_iconst (pc := 5) (v := nI 5) dX8_isBit_5 (by decide) ?_
  refine J_ishrN (pc := 6) dX8_isBit_6 (by omega) (by omega) ?_
  refine J_iald (pc := 7) dX8_isBit_7 hbb (by rw [hbl]; exact nI_in (by omega) (by decide)) ?_
  refine J_iload_n (pc := 8) dX8_isBit_8 rfl rfl ?_
  refine J_bipush (pc := 9) (v := nI 31) dX8_isBit_9 (by decide) ?_
  have hm1 := Nat.mod_lt k (show 0 < 2 ^ 5 by decide)
  refine J_iandN (pc := 11) 5 dX8_isBit_11 (by omega) (by decide) ?_
  refine J_ishr (pc := 12) dX8_isBit_12 ?_
  refine J_iconst (pc := 13) (v := nI 1) dX8_isBit_13 (by decide) ?_
  refine J_iand (pc := 14) dX8_isBit_14 ?_
  refine J_iconst (pc := 15) (v := nI 1) dX8_isBit_15 (by decide) ?_
  refine J_icmp_ne (pc := 16) (tgt := 23) dX8_isBit_16 (by decide) (fun ht2 => ?_) (fun hf3 => ?_)
  · refine J_iconst (pc := 23) (v := nI 0) dX8_isBit_23 (by decide) ?_
    exact J_zret (pc := 24) dX8_isBit_24 rfl (nar_b (by first | decide | omega)) ⟨Or.inl ⟨rfl, (by cases e : bitL bt k; (rfl); (exact absurd ((bit_eq bt (k := k) (by omega)).mpr e) (by assumption)))⟩, rfl⟩
  · refine J_iconst (pc := 19) (v := nI 1) dX8_isBit_19 (by decide) ?_
    refine J_goto (pc := 20) (tgt := 24) dX8_isBit_20 (by decide) ?_
    exact J_zret (pc := 24) dX8_isBit_24 rfl (nar_b (by first | decide | omega)) ⟨Or.inr (⟨rfl, (by exact (bit_eq bt (k := k) (by omega)).mp (by assumption))⟩), rfl⟩
end
