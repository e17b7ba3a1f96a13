/-! contracts of the reference: rspec4 -/
set_option maxRecDepth 100000 in
set_option maxHeartbeats 40000000 in
theorem c_X8_oneByOne {X : jX} (hs : X.1.stackTraces = false) {d : Nat} (hd : 2 ≤ d) {n : Nat} {mv rw nx : Nat → Nat} {b : Nat} {bt : List Int32} {kn en dn rf kk th : Int32} {w : List jC} (hR : RM n mv rw nx b bt kn en dn rf kk th w) (hn1 : 2 ≤ n) (hn2 : n ≤ 7) (gm : ∀ i, mv i < 7) (gr : ∀ i, rw i < 7) (gx : ∀ i, nx i < 7) (s : Nat) (e : Nat) (hy0 : s < 64) (hy1 : 1 ≤ e) (hy2 : e ≤ 3) (hy3 : PM n mv) {kc ks : Nat} (hkc : 2 ≤ kc) (hks : 4374 ≤ ks) : jMet X mX8_oneByOne d kc ks [.ref 19, .int (nI s), .int (nI e)] w (pI (fun _ => True) (fun w' => ∃ (nx' : Nat → Nat), RM n mv rw nx' b bt kn en dn rf kk th w' ∧ FR b b w w' ∧ (∀ i, nx' i < 7))) := by
  refine jMet_of hs (by decide +kernel) (Nat.le_of_ble_eq_true rfl) (L := [some (.ref 19), some (.int (nI s)), some (.int (nI e)), none, none, none, none, none, none, none, none, none]) rfl ?_
  have hdm : 1 ≤ d - 1 := by omega
  have hdp : d - 1 + 1 ≤ d := by omega
  have hfc := fc_7 hn2
  have hfp := fc_pos n
  obtain ⟨h19, h20, h21, h22, hbb, hbl, hb3⟩ := hR
  have hF : FR b b w w := FR.rf
  have hpw := pw_le (e := e) (n := n) hy2 hn2
  refine J_iconst (pc := 0) (v := nI 1) dX8_oneByOne_0 (by decide) ?_
  refine J_istore_n (pc := 1) dX8_oneByOne_1 rfl (by decide) rfl ?_
  show J X mX8_oneByOne d kc ks 2 [some (.ref 19), some (.int (nI s)), some (.int (nI e)), some (.int (nI 1)), none, none, none, none, none, none, none, none] [] w _
  refine J_iconst (pc := 2) (v := nI 0) dX8_oneByOne_2 (by decide) ?_
  refine J_istore (pc := 3) dX8_oneByOne_3 (by decide) rfl ?_
  show J X mX8_oneByOne d kc ks 5 [some (.ref 19), some (.int (nI s)), some (.int (nI e)), some (.int (nI 1)), some (.int (nI 0)), none, none, none, none, none, none, none] [] w _
  have lp5_1 : ∀ (fuel : Nat) (y3 : Nat) (c4 : Nat), (y3 = e ^ c4) → (c4 ≤ n) → (n - c4 < fuel) → J X mX8_oneByOne d kc ks 5 [some (.ref 19), some (.int (nI s)), some (.int (nI e)), some (.int (nI y3)), some (.int (nI c4)), none, none, none, none, none, none, none] [] w (pI (fun _ => True) (fun w' => ∃ (nx' : Nat → Nat), RM n mv rw nx' b bt kn en dn rf kk th w' ∧ FR b b w w' ∧ (∀ i, nx' i < 7))) := by
    intro fuellp5_1
    induction fuellp5_1 with
    | zero => intros; omega
    | succ fuellp5_1 ihlp5_1 =>
      intro y3 c4 hv5_0 hv5_1 hf2
      refine J_iload (pc := 5) dX8_oneByOne_5 rfl ?_
      refine J_aload_n (pc := 7) dX8_oneByOne_7 rfl rfl rfl ?_
      refine J_get (pc := 8) (k := 0) dX8_oneByOne_8 kC9 (by decide) ff_X8_7 h19 rfl ?_
      refine J_icmp_geN (pc := 11) (tgt := 24) dX8_oneByOne_11 (by decide) (by omega) (by omega) (fun ht3 => ?_) (fun hf4 => ?_)
      · have hy3e : y3 = e ^ n := by rw [hv5_0, show c4 = n by omega]
        have hy31 : 1 ≤ y3 := by rw [hy3e]; exact Nat.pow_pos hy1
        refine J_iload_n (pc := 24) dX8_oneByOne_24 rfl rfl ?_
        refine J_newW (pc := 25) (M := mX8_oneByOne) (N := y3) dX8_oneByOne_25 fa_int rfl (by omega) (by omega) (by omega) (fun a25 w5 ha5 hln5 hc5 hne5 => ?_)
        have q195 := gl h19
        have q205 := gl h20
        have q215 := gl h21
        have q225 := gl h22
        have qb5 := gl hbb
        have qF5 := hF.1
        have h19_5 := (hne5 19 (by omega)).trans h19
        have h20_5 := (hne5 20 (by omega)).trans h20
        have h21_5 := (hne5 21 (by omega)).trans h21
        have h22_5 := (hne5 22 (by omega)).trans h22
        have hb_5 := (hne5 _ (by omega)).trans hbb
        have hF5 := hF.pu ha5 hln5 hne5
        rw [aF_0] at hc5
        refine J_astore (pc := 27) dX8_oneByOne_27 (by decide) rfl rfl ?_
        show J X mX8_oneByOne d (kc - 1) (ks - y3) 29 [some (.ref 19), some (.int (nI s)), some (.int (nI e)), some (.int (nI y3)), some (.ref a25), none, none, none, none, none, none, none] [] w5 _
        refine J_iconst (pc := 29) (v := nI 0) dX8_oneByOne_29 (by decide) ?_
        refine J_istore (pc := 30) dX8_oneByOne_30 (by decide) rfl ?_
        show J X mX8_oneByOne d (kc - 1) (ks - y3) 32 [some (.ref 19), some (.int (nI s)), some (.int (nI e)), some (.int (nI y3)), some (.ref a25), some (.int (nI 0)), none, none, none, none, none, none] [] w5 _
        refine J_iload_n (pc := 32) dX8_oneByOne_32 rfl rfl ?_
        refine J_newW (pc := 33) (M := mX8_oneByOne) (N := y3) dX8_oneByOne_33 fa_int rfl (by omega) (by omega) (by omega) (fun a33 w6 ha6 hln6 hc6 hne6 => ?_)
        have q196 := gl h19_5
        have q206 := gl h20_5
        have q216 := gl h21_5
        have q226 := gl h22_5
        have qb6 := gl hb_5
        have qa256 := gl hc5
        have qF6 := hF5.1
        have h19_6 := (hne6 19 (by omega)).trans h19_5
        have h20_6 := (hne6 20 (by omega)).trans h20_5
        have h21_6 := (hne6 21 (by omega)).trans h21_5
        have h22_6 := (hne6 22 (by omega)).trans h22_5
        have hb_6 := (hne6 _ (by omega)).trans hb_5
        have hla25_6 := (hne6 a25 (by omega)).trans hc5
        have hF6 := hF5.pu ha6 hln6 hne6
        rw [aF_0] at hc6
        refine J_astore (pc := 35) dX8_oneByOne_35 (by decide) rfl rfl ?_
        show J X mX8_oneByOne d (kc - 1 - 1) (ks - y3 - y3) 37 [some (.ref 19), some (.int (nI s)), some (.int (nI e)), some (.int (nI y3)), some (.ref a25), some (.int (nI 0)), some (.ref a33), none, none, none, none, none] [] w6 _
        refine J_iconst (pc := 37) (v := nI 0) dX8_oneByOne_37 (by decide) ?_
        refine J_istore (pc := 38) dX8_oneByOne_38 (by decide) rfl ?_
        show J X mX8_oneByOne d (kc - 1 - 1) (ks - y3 - y3) 40 [some (.ref 19), some (.int (nI s)), some (.int (nI e)), some (.int (nI y3)), some (.ref a25), some (.int (nI 0)), some (.ref a33), some (.int (nI 0)), none, none, none, none] [] w6 _
        have lp40_7 : ∀ (fuel : Nat) (w8 : List jC) (nx_40 : Nat → Nat) (f25_40 : Nat → Nat) (f33_40 : Nat → Nat) (z5 : Int32) (c7 : Nat), (RM n mv rw nx_40 b bt kn en dn rf kk th w8) → (FR b b w w8) → (∀ i, nx_40 i < 7) → (w8[a25]? = some (aF y3 f25_40)) → (w8[a33]? = some (aF y3 f33_40)) → (∀ i, f25_40 i < 2) → (∀ i, f33_40 i < y3) → (c7 ≤ y3) → (y3 - c7 < fuel) → J X mX8_oneByOne d (kc - 1 - 1) (ks - y3 - y3) 40 [some (.ref 19), some (.int (nI s)), some (.int (nI e)), some (.int (nI y3)), some (.ref a25), some (.int z5), some (.ref a33), some (.int (nI c7)), none, none, none, none] [] w8 (pI (fun _ => True) (fun w' => ∃ (nx' : Nat → Nat), RM n mv rw nx' b bt kn en dn rf kk th w' ∧ FR b b w w' ∧ (∀ i, nx' i < 7))) := by
          intro fuellp40_7
          induction fuellp40_7 with
          | zero => intros; omega
          | succ fuellp40_7 ihlp40_7 =>
            intro w8 nx_40 f25_40 f33_40 z5 c7 hR9 hF10 gx11 hl12 hl13 hv40_0 hv40_1 hv40_2 hf14
            obtain ⟨h19_15, h20_15, h21_15, h22_15, hb_15, hbl_15, hb3_15⟩ := hR9
            refine J_iload (pc := 40) dX8_oneByOne_40 rfl ?_
            refine J_iload_n (pc := 42) dX8_oneByOne_42 rfl rfl ?_
            refine J_icmp_geN (pc := 43) (tgt := 167) dX8_oneByOne_43 (by decide) (by omega) (by omega) (fun ht16 => ?_) (fun hf17 => ?_)
            · refine J_iload (pc := 167) dX8_oneByOne_167 rfl ?_
              exact J_iret (pc := 169) dX8_oneByOne_169 rfl ⟨trivial, ⟨nx_40, ⟨h19_15, h20_15, h21_15, h22_15, hb_15, hbl_15, hb3_15⟩, hF10, gx11⟩⟩
            · refine J_aload (pc := 46) dX8_oneByOne_46 rfl rfl ?_
              refine J_iload (pc := 48) dX8_oneByOne_48 rfl ?_
              refine J_ialdF (pc := 50) dX8_oneByOne_50 hl12 (by omega) (by omega) ?_
              refine J_iconst (pc := 51) (v := nI 1) dX8_oneByOne_51 (by decide) ?_
              have hq52 := hv40_0 c7
              refine J_icmp_neN (pc := 52) (tgt := 58) dX8_oneByOne_52 (by decide) (by omega) (by omega) (fun ht18 => ?_) (fun hf19 => ?_)
              · refine J_iinc (pc := 58) dX8_oneByOne_58 rfl rfl (by decide) rfl ?_
                generalize z5 + Int32.ofInt 1 = x20
                show J X mX8_oneByOne d (kc - 1 - 1) (ks - y3 - y3) 61 [some (.ref 19), some (.int (nI s)), some (.int (nI e)), some (.int (nI y3)), some (.ref a25), some (.int x20), some (.ref a33), some (.int (nI c7)), none, none, none, none] [] w8 _
                refine J_aload (pc := 61) dX8_oneByOne_61 rfl rfl ?_
                refine J_iload (pc := 63) dX8_oneByOne_63 rfl ?_
                refine J_iconst (pc := 65) (v := nI 1) dX8_oneByOne_65 (by decide) ?_
                refine J_iastF (pc := 66) dX8_oneByOne_66 hl12 (by omega) (by omega) (fun w21 hln21 hc21 hne21 => ?_)
                have h19_21 := (hne21 19 (by omega)).trans h19_15
                have h20_21 := (hne21 20 (by omega)).trans h20_15
                have h21_21 := (hne21 21 (by omega)).trans h21_15
                have h22_21 := (hne21 22 (by omega)).trans h22_15
                have hb_21 := (hne21 _ (by omega)).trans hb_15
                have hla33_21 := (hne21 a33 (by omega)).trans hl13
                have hF21 := hF10.st hln21 hne21 (Or.inr (Or.inr (by omega)))
                refine J_aload (pc := 67) dX8_oneByOne_67 rfl rfl ?_
                refine J_iconst (pc := 69) (v := nI 0) dX8_oneByOne_69 (by decide) ?_
                refine J_iload (pc := 70) dX8_oneByOne_70 rfl ?_
                refine J_iastF (pc := 72) dX8_oneByOne_72 hla33_21 (by omega) (by omega) (fun w22 hln22 hc22 hne22 => ?_)
                have h19_22 := (hne22 19 (by omega)).trans h19_21
                have h20_22 := (hne22 20 (by omega)).trans h20_21
                have h21_22 := (hne22 21 (by omega)).trans h21_21
                have h22_22 := (hne22 22 (by omega)).trans h22_21
                have hb_22 := (hne22 _ (by omega)).trans hb_21
                have hla25_22 := (hne22 a25 (by omega)).trans hc21
                have hF22 := hF21.st hln22 hne22 (Or.inr (Or.inr (by omega)))
                refine J_iconst (pc := 73) (v := nI 1) dX8_oneByOne_73 (by decide) ?_
                refine J_istore (pc := 74) dX8_oneByOne_74 (by decide) rfl ?_
                show J X mX8_oneByOne d (kc - 1 - 1) (ks - y3 - y3) 76 [some (.ref 19), some (.int (nI s)), some (.int (nI e)), some (.int (nI y3)), some (.ref a25), some (.int x20), some (.ref a33), some (.int (nI c7)), some (.int (nI 1)), none, none, none] [] w22 _
                have lp76_23 : ∀ (fuel : Nat) (w24 : List jC) (nx_76 : Nat → Nat) (f25_76 : Nat → Nat) (f33_76 : Nat → Nat) (c8 : Nat), (RM n mv rw nx_76 b bt kn en dn rf kk th w24) → (FR b b w w24) → (∀ i, nx_76 i < 7) → (w24[a25]? = some (aF y3 f25_76)) → (w24[a33]? = some (aF y3 f33_76)) → (∀ i, f25_76 i < 2) → (∀ i, f33_76 i < y3) → (c8 ≤ (cnt (fun i => f25_76 i == 1) y3)) → (2 * (y3 - (cnt (fun i => f25_76 i == 1) y3)) + c8 < fuel) → J X mX8_oneByOne d (kc - 1 - 1) (ks - y3 - y3) 76 [some (.ref 19), some (.int (nI s)), some (.int (nI e)), some (.int (nI y3)), some (.ref a25), some (.int x20), some (.ref a33), some (.int (nI c7)), some (.int (nI c8)), none, none, none] [] w24 (pI (fun _ => True) (fun w' => ∃ (nx' : Nat → Nat), RM n mv rw nx' b bt kn en dn rf kk th w' ∧ FR b b w w' ∧ (∀ i, nx' i < 7))) := by
                  intro fuellp76_23
                  induction fuellp76_23 with
                  | zero => intros; omega
                  | succ fuellp76_23 ihlp76_23 =>
                    intro w24 nx_76 f25_76 f33_76 c8 hR25 hF26 gx27 hl28 hl29 hv76_0 hv76_1 hv76_2 hf30
                    obtain ⟨h19_31, h20_31, h21_31, h22_31, hb_31, hbl_31, hb3_31⟩ := hR25
                    have hcs76 := cnt_le (fun i => f25_76 i == 1) y3
                    refine J_iload (pc := 76) dX8_oneByOne_76 rfl ?_
                    refine J_if_leN (pc := 78) (tgt := 161) dX8_oneByOne_78 (by decide) (by omega) (fun ht32 => ?_) (fun hf33 => ?_)
                    · refine J_iincN (pc := 161) (b := 1) dX8_oneByOne_161 rfl (by decide) (by decide) rfl ?_
                      show J X mX8_oneByOne d (kc - 1 - 1) (ks - y3 - y3) 164 [some (.ref 19), some (.int (nI s)), some (.int (nI e)), some (.int (nI y3)), some (.ref a25), some (.int x20), some (.ref a33), some (.int (nI (c7 + 1))), some (.int (nI c8)), none, none, none] [] w24 _
                      refine J_goto (pc := 164) (tgt := 40) dX8_oneByOne_164 (by decide) ?_
                      exact J_sub (L' := [some (.ref 19), some (.int (nI s)), some (.int (nI e)), some (.int (nI y3)), some (.ref a25), some (.int x20), some (.ref a33), some (.int (nI (c7 + 1))), none, none, none, none]) ⟨rfl, ⟨rfl, ⟨rfl, ⟨rfl, ⟨rfl, ⟨rfl, ⟨rfl, ⟨rfl, trivial⟩⟩⟩⟩⟩⟩⟩⟩ (ihlp40_7 w24 nx_76 f25_76 f33_76 x20 (c7 + 1) ⟨h19_31, h20_31, h21_31, h22_31, hb_31, hbl_31, hb3_31⟩ hF26 gx27 hl28 hl29 (by assumption) (by assumption) (by first | assumption | omega) (by omega))
                    · refine J_iincM (pc := 81) dX8_oneByOne_81 rfl (by omega) (by decide) rfl ?_
                      show J X mX8_oneByOne d (kc - 1 - 1) (ks - y3 - y3) 84 [some (.ref 19), some (.int (nI s)), some (.int (nI e)), some (.int (nI y3)), some (.ref a25), some (.int x20), some (.ref a33), some (.int (nI c7)), some (.int (nI (c8 - 1))), none, none, none] [] w24 _
                      refine J_aload (pc := 84) dX8_oneByOne_84 rfl rfl ?_
                      refine J_iload (pc := 86) dX8_oneByOne_86 rfl ?_
                      refine J_ialdF (pc := 88) dX8_oneByOne_88 hl29 (by omega) (by omega) ?_
                      have hq89 := hv76_1 (c8 - 1)
                      refine J_istore (pc := 89) dX8_oneByOne_89 (by decide) rfl ?_
                      show J X mX8_oneByOne d (kc - 1 - 1) (ks - y3 - y3) 91 [some (.ref 19), some (.int (nI s)), some (.int (nI e)), some (.int (nI y3)), some (.ref a25), some (.int x20), some (.ref a33), some (.int (nI c7)), some (.int (nI (c8 - 1))), some (.int (nI (f33_76 (c8 - 1)))), none, none] [] w24 _
                      refine J_iconst (pc := 91) (v := nI 0) dX8_oneByOne_91 (by decide) ?_
                      refine J_istore (pc := 92) dX8_oneByOne_92 (by decide) rfl ?_
                      show J X mX8_oneByOne d (kc - 1 - 1) (ks - y3 - y3) 94 [some (.ref 19), some (.int (nI s)), some (.int (nI e)), some (.int (nI y3)), some (.ref a25), some (.int x20), some (.ref a33), some (.int (nI c7)), some (.int (nI (c8 - 1))), some (.int (nI (f33_76 (c8 - 1)))), some (.int (nI 0)), none] [] w24 _
                      have lp94_34 : ∀ (fuel : Nat) (w35 : List jC) (nx_94 : Nat → Nat) (f25_94 : Nat → Nat) (f33_94 : Nat → Nat) (x8 : Nat) (c10 : Nat), (RM n mv rw nx_94 b bt kn en dn rf kk th w35) → (FR b b w w35) → (∀ i, nx_94 i < 7) → (w35[a25]? = some (aF y3 f25_94)) → (w35[a33]? = some (aF y3 f33_94)) → (∀ i, f25_94 i < 2) → (∀ i, f33_94 i < y3) → (x8 ≤ (cnt (fun i => f25_94 i == 1) y3)) → (2 * (y3 - (cnt (fun i => f25_94 i == 1) y3)) + x8 + 1 ≤ 2 * (y3 - cnt (fun i => f25_76 i == 1) y3) + c8) → (c10 ≤ 6) → (6 - c10 < fuel) → J X mX8_oneByOne d (kc - 1 - 1) (ks - y3 - y3) 94 [some (.ref 19), some (.int (nI s)), some (.int (nI e)), some (.int (nI y3)), some (.ref a25), some (.int x20), some (.ref a33), some (.int (nI c7)), some (.int (nI x8)), some (.int (nI (f33_76 (c8 - 1)))), some (.int (nI c10)), none] [] w35 (pI (fun _ => True) (fun w' => ∃ (nx' : Nat → Nat), RM n mv rw nx' b bt kn en dn rf kk th w' ∧ FR b b w w' ∧ (∀ i, nx' i < 7))) := by
                        intro fuellp94_34
                        induction fuellp94_34 with
                        | zero => intros; omega
                        | succ fuellp94_34 ihlp94_34 =>
                          intro w35 nx_94 f25_94 f33_94 x8 c10 hR36 hF37 gx38 hl39 hl40 hv94_0 hv94_1 hv94_2 hv94_3 hv94_4 hf41
                          obtain ⟨h19_42, h20_42, h21_42, h22_42, hb_42, hbl_42, hb3_42⟩ := hR36
                          refine J_iload (pc := 94) dX8_oneByOne_94 rfl ?_
                          refine J_bipush (pc := 96) (v := nI 6) dX8_oneByOne_96 (by decide) ?_
                          refine J_icmp_geN (pc := 98) (tgt := 158) dX8_oneByOne_98 (by decide) (by omega) (by omega) (fun ht43 => ?_) (fun hf44 => ?_)
                          · refine J_goto (pc := 158) (tgt := 76) dX8_oneByOne_158 (by decide) ?_
                            exact J_sub (L' := [some (.ref 19), some (.int (nI s)), some (.int (nI e)), some (.int (nI y3)), some (.ref a25), some (.int x20), some (.ref a33), some (.int (nI c7)), some (.int (nI x8)), none, none, none]) ⟨rfl, ⟨rfl, ⟨rfl, ⟨rfl, ⟨rfl, ⟨rfl, ⟨rfl, ⟨rfl, ⟨rfl, trivial⟩⟩⟩⟩⟩⟩⟩⟩⟩ (ihlp76_23 w35 nx_94 f25_94 f33_94 x8 ⟨h19_42, h20_42, h21_42, h22_42, hb_42, hbl_42, hb3_42⟩ hF37 gx38 hl39 hl40 (by assumption) (by assumption) (by omega) (by omega))
                          · refine J_iload_n (pc := 101) dX8_oneByOne_101 rfl rfl ?_
                            refine J_iload (pc := 102) dX8_oneByOne_102 rfl ?_
                            refine J_ishrN (pc := 104) dX8_oneByOne_104 (by omega) (by omega) ?_
                            refine J_iconst (pc := 105) (v := nI 1) dX8_oneByOne_105 (by decide) ?_
                            have hm45 := Nat.mod_lt (s / 2 ^ c10) (show 0 < 2 ^ 1 by decide)
                            have hm46 := Nat.div_le_self s (2 ^ c10)
                            refine J_iandN (pc := 106) 1 dX8_oneByOne_106 (by omega) (by decide) ?_
                            refine J_if_neN (pc := 107) (tgt := 113) dX8_oneByOne_107 (by decide) (by omega) (fun ht47 => ?_) (fun hf48 => ?_)
                            · refine J_aload_n (pc := 113) dX8_oneByOne_113 rfl rfl rfl ?_
                              refine J_iload (pc := 114) dX8_oneByOne_114 rfl ?_
                              refine J_iload (pc := 116) dX8_oneByOne_116 rfl ?_
                              refine J_iload_n (pc := 118) dX8_oneByOne_118 rfl rfl ?_
                              refine J_callV0 (pc := 119) (M := mX8_oneByOne) (as := [.int (nI (f33_76 (c8 - 1))), .int (nI c10), .int (nI e)]) dX8_oneByOne_119 fw_X8_coloured fl_X8_206 fm_X8_coloured fe_X8_coloured h19_42 (by decide) rfl rfl rfl (c_X8_coloured hs (d := d - 1) (Nat.le_trans (by decide) hdm) (w := w35) (n := n) (mv := mv) (rw := rw) (nx := nx_94) (b := b) (bt := bt) (kn := kn) (en := en) (dn := dn) (rf := rf) (kk := kk) (th := th) ⟨h19_42, h20_42, h21_42, h22_42, hb_42, hbl_42, hb3_42⟩ hn1 hn2 gm gr gx38 (f33_76 (c8 - 1)) c10 e (by first | assumption | omega) (by first | assumption | omega) (by first | assumption | omega) (by first | assumption | omega) (by first | assumption | omega) (kc := 0) (ks := 0)) hdp (st := []) (Nat.le_of_ble_eq_true rfl) rfl (kr_I fun v49 w49 hv49 hw49 => ?_) kx_I
                              obtain ⟨nx49, hR49, hFc49, hgnx49⟩ := hw49
                              obtain ⟨h19_49, h20_49, h21_49, h22_49, hbb_49, hbl_49, hb3_49⟩ := hR49
                              have hla25_49 := hFc49.at hl39 (by omega) (by omega)
                              have hla33_49 := hFc49.at hl40 (by omega) (by omega)
                              have hF49 := hF37.tr hFc49
                              obtain ⟨k49, rfl, hk49⟩ := hv49
                              refine J_istore (pc := 122) dX8_oneByOne_122 (by decide) rfl ?_
                              show J X mX8_oneByOne d (kc - 1 - 1) (ks - y3 - y3) 124 [some (.ref 19), some (.int (nI s)), some (.int (nI e)), some (.int (nI y3)), some (.ref a25), some (.int x20), some (.ref a33), some (.int (nI c7)), some (.int (nI x8)), some (.int (nI (f33_76 (c8 - 1)))), some (.int (nI c10)), some (.int (nI k49))] [] w49 _
                              refine J_aload (pc := 124) dX8_oneByOne_124 rfl rfl ?_
                              refine J_iload (pc := 126) dX8_oneByOne_126 rfl ?_
                              refine J_ialdF (pc := 128) dX8_oneByOne_128 hla25_49 (by omega) (by omega) ?_
                              refine J_iconst (pc := 129) (v := nI 1) dX8_oneByOne_129 (by decide) ?_
                              have hq130 := hv94_0 k49
                              refine J_icmp_neN (pc := 130) (tgt := 136) dX8_oneByOne_130 (by decide) (by omega) (by omega) (fun ht50 => ?_) (fun hf51 => ?_)
                              · have hcu := cnt_up1 (P := f25_94) (K := y3) (j := k49) (by omega) (by omega)
                                refine J_aload (pc := 136) dX8_oneByOne_136 rfl rfl ?_
                                refine J_iload (pc := 138) dX8_oneByOne_138 rfl ?_
                                refine J_iconst (pc := 140) (v := nI 1) dX8_oneByOne_140 (by decide) ?_
                                refine J_iastF (pc := 141) dX8_oneByOne_141 hla25_49 (by omega) (by omega) (fun w52 hln52 hc52 hne52 => ?_)
                                have h19_52 := (hne52 19 (by omega)).trans h19_49
                                have h20_52 := (hne52 20 (by omega)).trans h20_49
                                have h21_52 := (hne52 21 (by omega)).trans h21_49
                                have h22_52 := (hne52 22 (by omega)).trans h22_49
                                have hb_52 := (hne52 _ (by omega)).trans hbb_49
                                have hla33_52 := (hne52 a33 (by omega)).trans hla33_49
                                have hF52 := hF49.st hln52 hne52 (Or.inr (Or.inr (by omega)))
                                refine J_aload (pc := 142) dX8_oneByOne_142 rfl rfl ?_
                                refine J_iload (pc := 144) dX8_oneByOne_144 rfl ?_
                                refine J_iload (pc := 146) dX8_oneByOne_146 rfl ?_
                                refine J_iastF (pc := 148) dX8_oneByOne_148 hla33_52 (by omega) (by omega) (fun w53 hln53 hc53 hne53 => ?_)
                                have h19_53 := (hne53 19 (by omega)).trans h19_52
                                have h20_53 := (hne53 20 (by omega)).trans h20_52
                                have h21_53 := (hne53 21 (by omega)).trans h21_52
                                have h22_53 := (hne53 22 (by omega)).trans h22_52
                                have hb_53 := (hne53 _ (by omega)).trans hb_52
                                have hla25_53 := (hne53 a25 (by omega)).trans hc52
                                have hF53 := hF52.st hln53 hne53 (Or.inr (Or.inr (by omega)))
                                refine J_iincN (pc := 149) (b := 1) dX8_oneByOne_149 rfl (by decide) (by decide) rfl ?_
                                show J X mX8_oneByOne d (kc - 1 - 1) (ks - y3 - y3) 152 [some (.ref 19), some (.int (nI s)), some (.int (nI e)), some (.int (nI y3)), some (.ref a25), some (.int x20), some (.ref a33), some (.int (nI c7)), some (.int (nI (x8 + 1))), some (.int (nI (f33_76 (c8 - 1)))), some (.int (nI c10)), some (.int (nI k49))] [] w53 _
                                refine J_iincN (pc := 152) (b := 1) dX8_oneByOne_152 rfl (by decide) (by decide) rfl ?_
                                show J X mX8_oneByOne d (kc - 1 - 1) (ks - y3 - y3) 155 [some (.ref 19), some (.int (nI s)), some (.int (nI e)), some (.int (nI y3)), some (.ref a25), some (.int x20), some (.ref a33), some (.int (nI c7)), some (.int (nI (x8 + 1))), some (.int (nI (f33_76 (c8 - 1)))), some (.int (nI (c10 + 1))), some (.int (nI k49))] [] w53 _
                                refine J_goto (pc := 155) (tgt := 94) dX8_oneByOne_155 (by decide) ?_
                                exact J_sub (L' := [some (.ref 19), some (.int (nI s)), some (.int (nI e)), some (.int (nI y3)), some (.ref a25), some (.int x20), some (.ref a33), some (.int (nI c7)), some (.int (nI (x8 + 1))), some (.int (nI (f33_76 (c8 - 1)))), some (.int (nI (c10 + 1))), none]) ⟨rfl, ⟨rfl, ⟨rfl, ⟨rfl, ⟨rfl, ⟨rfl, ⟨rfl, ⟨rfl, ⟨rfl, ⟨rfl, ⟨rfl, trivial⟩⟩⟩⟩⟩⟩⟩⟩⟩⟩⟩ (ihlp94_34 w53 nx49 (up f25_94 k49 1) (up f33_94 x8 k49) (x8 + 1) (c10 + 1) ⟨h19_53, h20_53, h21_53, h22_53, hb_53, hbl_49, hb3_49⟩ hF53 hgnx49 hla25_53 hc53 (by first | assumption | exact up_b hv94_0 (by decide)) (by first | assumption | exact up_b hv94_1 (by omega)) (by first | assumption | omega) (by first | assumption | omega) (by first | assumption | omega) (by omega))
                              · refine J_goto (pc := 133) (tgt := 152) dX8_oneByOne_133 (by decide) ?_
                                refine J_iincN (pc := 152) (b := 1) dX8_oneByOne_152 rfl (by decide) (by decide) rfl ?_
                                show J X mX8_oneByOne d (kc - 1 - 1) (ks - y3 - y3) 155 [some (.ref 19), some (.int (nI s)), some (.int (nI e)), some (.int (nI y3)), some (.ref a25), some (.int x20), some (.ref a33), some (.int (nI c7)), some (.int (nI x8)), some (.int (nI (f33_76 (c8 - 1)))), some (.int (nI (c10 + 1))), some (.int (nI k49))] [] w49 _
                                refine J_goto (pc := 155) (tgt := 94) dX8_oneByOne_155 (by decide) ?_
                                exact J_sub (L' := [some (.ref 19), some (.int (nI s)), some (.int (nI e)), some (.int (nI y3)), some (.ref a25), some (.int x20), some (.ref a33), some (.int (nI c7)), some (.int (nI x8)), some (.int (nI (f33_76 (c8 - 1)))), some (.int (nI (c10 + 1))), none]) ⟨rfl, ⟨rfl, ⟨rfl, ⟨rfl, ⟨rfl, ⟨rfl, ⟨rfl, ⟨rfl, ⟨rfl, ⟨rfl, ⟨rfl, trivial⟩⟩⟩⟩⟩⟩⟩⟩⟩⟩⟩ (ihlp94_34 w49 nx49 f25_94 f33_94 x8 (c10 + 1) ⟨h19_49, h20_49, h21_49, h22_49, hbb_49, hbl_49, hb3_49⟩ hF49 hgnx49 hla25_49 hla33_49 (by first | assumption | exact up_b hv94_0 (by decide)) (by first | assumption | exact up_b hv94_1 (by omega)) (by first | assumption | omega) (by first | assumption | omega) (by first | assumption | omega) (by omega))
                            · refine J_goto (pc := 110) (tgt := 152) dX8_oneByOne_110 (by decide) ?_
                              refine J_iincN (pc := 152) (b := 1) dX8_oneByOne_152 rfl (by decide) (by decide) rfl ?_
                              show J X mX8_oneByOne d (kc - 1 - 1) (ks - y3 - y3) 155 [some (.ref 19), some (.int (nI s)), some (.int (nI e)), some (.int (nI y3)), some (.ref a25), some (.int x20), some (.ref a33), some (.int (nI c7)), some (.int (nI x8)), some (.int (nI (f33_76 (c8 - 1)))), some (.int (nI (c10 + 1))), none] [] w35 _
                              refine J_goto (pc := 155) (tgt := 94) dX8_oneByOne_155 (by decide) ?_
                              exact J_sub (L' := [some (.ref 19), some (.int (nI s)), some (.int (nI e)), some (.int (nI y3)), some (.ref a25), some (.int x20), some (.ref a33), some (.int (nI c7)), some (.int (nI x8)), some (.int (nI (f33_76 (c8 - 1)))), some (.int (nI (c10 + 1))), none]) ⟨rfl, ⟨rfl, ⟨rfl, ⟨rfl, ⟨rfl, ⟨rfl, ⟨rfl, ⟨rfl, ⟨rfl, ⟨rfl, ⟨rfl, trivial⟩⟩⟩⟩⟩⟩⟩⟩⟩⟩⟩ (ihlp94_34 w35 nx_94 f25_94 f33_94 x8 (c10 + 1) ⟨h19_42, h20_42, h21_42, h22_42, hb_42, hbl_42, hb3_42⟩ hF37 gx38 hl39 hl40 (by first | assumption | exact up_b hv94_0 (by decide)) (by first | assumption | exact up_b hv94_1 (by omega)) (by first | assumption | omega) (by first | assumption | omega) (by first | assumption | omega) (by omega))
                      exact J_sub (L' := [some (.ref 19), some (.int (nI s)), some (.int (nI e)), some (.int (nI y3)), some (.ref a25), some (.int x20), some (.ref a33), some (.int (nI c7)), some (.int (nI (c8 - 1))), some (.int (nI (f33_76 (c8 - 1)))), some (.int (nI 0)), none]) ⟨rfl, ⟨rfl, ⟨rfl, ⟨rfl, ⟨rfl, ⟨rfl, ⟨rfl, ⟨rfl, ⟨rfl, ⟨rfl, ⟨rfl, trivial⟩⟩⟩⟩⟩⟩⟩⟩⟩⟩⟩ (lp94_34 _ w24 nx_76 f25_76 f33_76 (c8 - 1) 0 ⟨h19_31, h20_31, h21_31, h22_31, hb_31, hbl_31, hb3_31⟩ hF26 gx27 hl28 hl29 (by assumption) (by assumption) (by omega) (by omega) (by first | assumption | omega) (Nat.lt_succ_self _))
                exact J_sub (L' := [some (.ref 19), some (.int (nI s)), some (.int (nI e)), some (.int (nI y3)), some (.ref a25), some (.int x20), some (.ref a33), some (.int (nI c7)), some (.int (nI 1)), none, none, none]) ⟨rfl, ⟨rfl, ⟨rfl, ⟨rfl, ⟨rfl, ⟨rfl, ⟨rfl, ⟨rfl, ⟨rfl, trivial⟩⟩⟩⟩⟩⟩⟩⟩⟩ (lp76_23 _ w22 nx_40 (up f25_40 c7 1) (up f33_40 0 c7) 1 ⟨h19_22, h20_22, h21_22, h22_22, hb_22, hbl_15, hb3_15⟩ hF22 gx11 hla25_22 hc22 (by exact up_b hv40_0 (by decide)) (by exact up_b hv40_1 (by omega)) (by exact cnt_pos _ c7 (by omega) (by rw [up_s]; rfl)) (Nat.lt_succ_self _))
              · refine J_goto (pc := 55) (tgt := 161) dX8_oneByOne_55 (by decide) ?_
                refine J_iincN (pc := 161) (b := 1) dX8_oneByOne_161 rfl (by decide) (by decide) rfl ?_
                show J X mX8_oneByOne d (kc - 1 - 1) (ks - y3 - y3) 164 [some (.ref 19), some (.int (nI s)), some (.int (nI e)), some (.int (nI y3)), some (.ref a25), some (.int z5), some (.ref a33), some (.int (nI (c7 + 1))), none, none, none, none] [] w8 _
                refine J_goto (pc := 164) (tgt := 40) dX8_oneByOne_164 (by decide) ?_
                exact J_sub (L' := [some (.ref 19), some (.int (nI s)), some (.int (nI e)), some (.int (nI y3)), some (.ref a25), some (.int z5), some (.ref a33), some (.int (nI (c7 + 1))), none, none, none, none]) ⟨rfl, ⟨rfl, ⟨rfl, ⟨rfl, ⟨rfl, ⟨rfl, ⟨rfl, ⟨rfl, trivial⟩⟩⟩⟩⟩⟩⟩⟩ (ihlp40_7 w8 nx_40 f25_40 f33_40 z5 (c7 + 1) ⟨h19_15, h20_15, h21_15, h22_15, hb_15, hbl_15, hb3_15⟩ hF10 gx11 hl12 hl13 (by assumption) (by assumption) (by first | assumption | omega) (by omega))
        exact J_sub (L' := [some (.ref 19), some (.int (nI s)), some (.int (nI e)), some (.int (nI y3)), some (.ref a25), some (.int (nI 0)), some (.ref a33), some (.int (nI 0)), none, none, none, none]) ⟨rfl, ⟨rfl, ⟨rfl, ⟨rfl, ⟨rfl, ⟨rfl, ⟨rfl, ⟨rfl, trivial⟩⟩⟩⟩⟩⟩⟩⟩ (lp40_7 _ w6 nx (fun _ => 0) (fun _ => 0) (nI 0) 0 ⟨h19_6, h20_6, h21_6, h22_6, hb_6, hbl, hb3⟩ hF6 gx hla25_6 hc6 (by intro i; decide) (by intro i; exact hy31) (by first | assumption | omega) (Nat.lt_succ_self _))
      · refine J_iload_n (pc := 14) dX8_oneByOne_14 rfl rfl ?_
        refine J_iload_n (pc := 15) dX8_oneByOne_15 rfl rfl ?_
        refine J_imulN (pc := 16) dX8_oneByOne_16 ?_
        refine J_istore_n (pc := 17) dX8_oneByOne_17 rfl (by decide) rfl ?_
        show J X mX8_oneByOne d kc ks 18 [some (.ref 19), some (.int (nI s)), some (.int (nI e)), some (.int (nI (y3 * e))), some (.int (nI c4)), none, none, none, none, none, none, none] [] w _
        refine J_iincN (pc := 18) (b := 1) dX8_oneByOne_18 rfl (by decide) (by decide) rfl ?_
        show J X mX8_oneByOne d kc ks 21 [some (.ref 19), some (.int (nI s)), some (.int (nI e)), some (.int (nI (y3 * e))), some (.int (nI (c4 + 1))), none, none, none, none, none, none, none] [] w _
        refine J_goto (pc := 21) (tgt := 5) dX8_oneByOne_21 (by decide) ?_
        exact J_sub (L' := [some (.ref 19), some (.int (nI s)), some (.int (nI e)), some (.int (nI (y3 * e))), some (.int (nI (c4 + 1))), none, none, none, none, none, none, none]) ⟨rfl, ⟨rfl, ⟨rfl, ⟨rfl, ⟨rfl, trivial⟩⟩⟩⟩⟩ (ihlp5_1 (y3 * e) (c4 + 1) (by rw [hv5_0]; exact (Nat.pow_succ e c4).symm) (by first | assumption | omega) (by omega))
  exact J_sub (L' := [some (.ref 19), some (.int (nI s)), some (.int (nI e)), some (.int (nI 1)), some (.int (nI 0)), none, none, none, none, none, none, none]) ⟨rfl, ⟨rfl, ⟨rfl, ⟨rfl, ⟨rfl, trivial⟩⟩⟩⟩⟩ (lp5_1 _ 1 0 (by rfl) (by first | assumption | omega) (Nat.lt_succ_self _))
