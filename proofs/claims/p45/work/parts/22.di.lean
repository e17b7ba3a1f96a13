/-! contracts of the reference: rspec4 -/
set_option maxRecDepth 100000 in
set_option maxHeartbeats 4000000 in
theorem c_X8_oneByOne {X : jX} (hs : X.1.stackTraces = false) {d : Nat} (hd : 2 ≤ d) {n : Nat} {mv rw nx : Nat → Nat} {b : Nat} {bt : List Int32} {kn en dn rf kk th : Int32} {w : List jC} (hR : RM n mv rw nx b bt kn en dn rf kk th w) (hn1 : 2 ≤ n) (hn2 : n ≤ 7) (gm : ∀ i, mv i < 7) (gr : ∀ i, rw i < 7) (gx : ∀ i, nx i < 7) (s : Nat) (e : Nat) (hy0 : s < 64) (hy1 : 1 ≤ e) (hy2 : e ≤ 3) (hy3 : PM n mv) {kc ks : Nat} (hkc : 2 ≤ kc) (hks : 4374 ≤ ks) : jMet X mX8_oneByOne d kc ks [.ref 19, .int (nI s), .int (nI e)] w (pI (fun _ => True) (fun w' => ∃ (nx' : Nat → Nat), RM n mv rw nx' b bt kn en dn rf kk th w' ∧ FR b b w w' ∧ (∀ i, nx' i < 7))) := by
  refine jMet_of hs (by decide +kernel) (Nat.le_of_ble_eq_true rfl) (L := [some (.ref 19), some (.int (nI s)), some (.int (nI e)), none, none, none, none, none, none, none, none, none]) rfl ?_
  have hfc := fc_7 hn2
  have hfp := fc_pos n
  obtain ⟨h19, h20, h21, h22, hbb, hbl, hb3⟩ := hR
  have hF : FR b b w w := FR.rf
  have hpw := pw_le (e := e) (n := n) hy2 hn2
  refine J_iconst (pc := 0) (v := nI 1) dX8_oneByOne_0 (by decide) ?_
  refine J_istore_n (pc := 1) dX8_oneByOne_1 rfl (by decide) rfl ?_
  show J X mX8_oneByOne d kc ks 2 [some (.ref 19), some (.int (nI s)), some (.int (nI e)), some (.int (nI 1)), none, none, none, none, none, none, none, none] [] w _
  refine J_iconst (pc := 2) (v := nI 0) dX8_oneByOne_2 (by decide) ?_
  refine J_istore (pc := 3) dX8_oneByOne_3 (by decide) rfl ?_
  show J X mX8_oneByOne d kc ks 5 [some (.ref 19), some (.int (nI s)), some (.int (nI e)), some (.int (nI 1)), some (.int (nI 0)), none, none, none, none, none, none, none] [] w _
  have lp5_1 : ∀ (fuel : Nat) (y3 : Nat) (c4 : Nat), (y3 = e ^ c4) → (c4 ≤ n) → (n - c4 < fuel) → J X mX8_oneByOne d kc ks 5 [some (.ref 19), some (.int (nI s)), some (.int (nI e)), some (.int (nI y3)), some (.int (nI c4)), none, none, none, none, none, none, none] [] w (pI (fun _ => True) (fun w' => ∃ (nx' : Nat → Nat), RM n mv rw nx' b bt kn en dn rf kk th w' ∧ FR b b w w' ∧ (∀ i, nx' i < 7))) := by
    intro fuellp5_1
    induction fuellp5_1 with
    | zero => intros; omega
    | succ fuellp5_1 ihlp5_1 =>
      intro y3 c4 hv5_0 hv5_1 hf2
      refine J_iload (pc := 5) dX8_oneByOne_5 rfl ?_
      refine J_aload_n (pc := 7) dX8_oneByOne_7 rfl rfl rfl ?_
      refine J_get (pc := 8) (k := 0) dX8_oneByOne_8 kC9 (by decide) ff_X8_7 h19 rfl ?_
      refine J_icmp_geN (pc := 11) (tgt := 24) dX8_oneByOne_11 (by decide) (by omega) (by omega) (fun ht3 => ?_) (fun hf4 => ?_)
      · have hy3e : y3 = e ^ n := by rw [hv5_0, show c4 = n by omega]
        have hy31 : 1 ≤ y3 := by rw [hy3e]; exact Nat.pow_pos hy1
        refine J_iload_n (pc := 24) dX8_oneByOne_24 rfl rfl ?_
        refine J_newW (pc := 25) (N := y3) dX8_oneByOne_25 fa_int rfl (by omega) (by omega) (by omega) (fun a25 w5 ha5 hln5 hc5 hne5 => ?_)
        have q195 := gl h19
        have q205 := gl h20
        have q215 := gl h21
        have q225 := gl h22
        have qb5 := gl hbb
        have qF5 := hF.1
        have h19_5 := (hne5 19 (by omega)).trans h19
        have h20_5 := (hne5 20 (by omega)).trans h20
        have h21_5 := (hne5 21 (by omega)).trans h21
        have h22_5 := (hne5 22 (by omega)).trans h22
        have hb_5 := (hne5 _ (by omega)).trans hbb
        have hF5 := hF.pu ha5 hln5 hne5
        rw [aF_0] at hc5
        refine J_astore (pc := 27) dX8_oneByOne_27 (by decide) rfl rfl ?_
        show J X mX8_oneByOne d (kc - 1) (ks - y3) 29 [some (.ref 19), some (.int (nI s)), some (.int (nI e)), some (.int (nI y3)), some (.ref a25), none, none, none, none, none, none, none] [] w5 _
        refine J_iconst (pc := 29) (v := nI 0) dX8_oneByOne_29 (by decide) ?_
        refine J_istore (pc := 30) dX8_oneByOne_30 (by decide) rfl ?_
        show J X mX8_oneByOne d (kc - 1) (ks - y3) 32 [some (.ref 19), some (.int (nI s)), some (.int (nI e)), some (.int (nI y3)), some (.ref a25), some (.int (nI 0)), none, none, none, none, none, none] [] w5 _
        refine J_iload_n (pc := 32) dX8_oneByOne_32 rfl rfl ?_
        refine J_newW (pc := 33) (N := y3) dX8_oneByOne_33 fa_int rfl (by omega) (by omega) (by omega) (fun a33 w6 ha6 hln6 hc6 hne6 => ?_)
        have q196 := gl h19_5
        have q206 := gl h20_5
        have q216 := gl h21_5
        have q226 := gl h22_5
        have qb6 := gl hb_5
        have qa256 := gl hc5
        have qF6 := hF5.1
        have h19_6 := (hne6 19 (by omega)).trans h19_5
        have h20_6 := (hne6 20 (by omega)).trans h20_5
        have h21_6 := (hne6 21 (by omega)).trans h21_5
        have h22_6 := (hne6 22 (by omega)).trans h22_5
        have hb_6 := (hne6 _ (by omega)).trans hb_5
        have hla25_6 := (hne6 a25 (by omega)).trans hc5
        have hF6 := hF5.pu ha6 hln6 hne6
        rw [aF_0] at hc6
        refine J_astore (pc := 35) dX8_oneByOne_35 (by decide) rfl rfl ?_
        show J X mX8_oneByOne d (kc - 1 - 1) (ks - y3 - y3) 37 [some (.ref 19), some (.int (nI s)), some (.int (nI e)), some (.int (nI y3)), some (.ref a25), some (.int (nI 0)), some (.ref a33), none, none, none, none, none] [] w6 _
        refine J_iconst (pc := 37) (v := nI 0) dX8_oneByOne_37 (by decide) ?_
        refine J_istore (pc := 38) dX8_oneByOne_38 (by decide) rfl ?_
        show J X mX8_oneByOne d (kc - 1 - 1) (ks - y3 - y3) 40 [some (.ref 19), some (.int (nI s)), some (.int (nI e)), some (.int (nI y3)), some (.ref a25), some (.int (nI 0)), some (.ref a33), some (.int (nI 0)), none, none, none, none] [] w6 _
        have lp40_7 : ∀ (fuel : Nat) (w8 : List jC) (nx_40 : Nat → Nat) (f25_40 : Nat → Nat) (f33_40 : Nat → Nat) (z5 : Int32) (c7 : Nat), (RM n mv rw nx_40 b bt kn en dn rf kk th w8) → (FR b b w w8) → (∀ i, nx_40 i < 7) → (w8[a25]? = some (aF y3 f25_40)) → (w8[a33]? = some (aF y3 f33_40)) → (∀ i, f25_40 i < 2) → (∀ i, f33_40 i < y3) → (c7 ≤ y3) → (y3 - c7 < fuel) → J X mX8_oneByOne d (kc - 1 - 1) (ks - y3 - y3) 40 [some (.ref 19), some (.int (nI s)), some (.int (nI e)), some (.int (nI y3)), some (.ref a25), some (.int z5), some (.ref a33), some (.int (nI c7)), none, none, none, none] [] w8 (pI (fun _ => True) (fun w' => ∃ (nx' : Nat → Nat), RM n mv rw nx' b bt kn en dn rf kk th w' ∧ FR b b w w' ∧ (∀ i, nx' i < 7))) := by
          intro fuellp40_7
          induction fuellp40_7 with
          | zero => intros; omega
          | succ fuellp40_7 ihlp40_7 =>
            intro w8 nx_40 f25_40 f33_40 z5 c7 hR9 hF10 gx11 hl12 hl13 hv40_0 hv40_1 hv40_2 hf14
            obtain ⟨h19_15, h20_15, h21_15, h22_15, hb_15, hbl_15, hb3_15⟩ := hR9
            refine J_iload (pc := 40) dX8_oneByOne_40 rfl ?_
            refine J_iload_n (pc := 42) dX8_oneByOne_42 rfl rfl ?_
            refine J_icmp_geN (pc := 43) (tgt := 167) dX8_oneByOne_43 (by decide) (by omega) (by omega) (fun ht16 => ?_) (fun hf17 => ?_)
            · refine J_iload (pc := 167) dX8_oneByOne_167 rfl ?_
              exact J_iret (pc := 169) dX8_oneByOne_169 rfl ⟨trivial, ⟨nx_40, ⟨h19_15, h20_15, h21_15, h22_15, hb_15, hbl_15, hb3_15⟩, hF10, gx11⟩⟩
            · refine J_aload (pc := 46) dX8_oneByOne_46 rfl rfl ?_
              refine J_iload (pc := 48) dX8_oneByOne_48 rfl ?_
              refine J_ialdF (pc := 50) dX8_oneByOne_50 hl12 (by omega) (by omega) ?_
              refine J_iconst (pc := 51) (v := nI 1) dX8_oneByOne_51 (by decide) ?_
              have hq52 := hv40_0 c7
              refine J_icmp_neN (pc := 52) (tgt := 58) dX8_oneByOne_52 (by decide) (by omega) (by omega) (fun ht18 => ?_) (fun hf19 => ?_)
              · refine J_iinc (pc := 58) dX8_oneByOne_58 rfl rfl (by decide) rfl ?_
                generalize z5 + Int32.ofInt 1 = x20
                show J X mX8_oneByOne d (kc - 1 - 1) (ks - y3 - y3) 61 [some (.ref 19), some (.int (nI s)), some (.int (nI e)), some (.int (nI y3)), some (.ref a25), some (.int x20), some (.ref a33), some (.int (nI c7)), none, none, none, none] [] w8 _
                refine J_aload (pc := 61) dX8_oneByOne_61 rfl rfl ?_
                refine J_iload (pc := 63) dX8_oneByOne_63 rfl ?_
                refine J_iconst (pc := 65) (v := nI 1) dX8_oneByOne_65 (by decide) ?_
                refine J_iastF (pc := 66) dX8_oneByOne_66 hl12 (by omega) (by omega) (fun w21 hln21 hc21 hne21 => ?_)
                have h19_21 := (hne21 19 (by omega)).trans h19_15
                have h20_21 := (hne21 20 (by omega)).trans h20_15
                have h21_21 := (hne21 21 (by omega)).trans h21_15
                have h22_21 := (hne21 22 (by omega)).trans h22_15
                have hb_21 := (hne21 _ (by omega)).trans hb_15
                have hla33_21 := (hne21 a33 (by omega)).trans hl13
                have hF21 := hF10.st hln21 hne21 (Or.inr (Or.inr (by omega)))
                refine J_aload (pc := 67) dX8_oneByOne_67 rfl rfl ?_
                refine J_iconst (pc := 69) (v := nI 0) dX8_oneByOne_69 (by decide) ?_
                refine J_iload (pc := 70) dX8_oneByOne_70 rfl ?_
                refine J_iastF (pc := 72) dX8_oneByOne_72 hla33_21 (by omega) (by omega) (fun w22 hln22 hc22 hne22 => ?_)
                have h19_22 := (hne22 19 (by omega)).trans h19_21
                have h20_22 := (hne22 20 (by omega)).trans h20_21
                have h21_22 := (hne22 21 (by omega)).trans h21_21
                have h22_22 := (hne22 22 (by omega)).trans h22_21
                have hb_22 := (hne22 _ (by omega)).trans hb_21
                have hla25_22 := (hne22 a25 (by omega)).trans hc21
                have hF22 := hF21.st hln22 hne22 (Or.inr (Or.inr (by omega)))
                refine J_iconst (pc := 73) (v := nI 1) dX8_oneByOne_73 (by decide) ?_
                refine J_istore (pc := 74) dX8_oneByOne_74 (by decide) rfl ?_
                show J X mX8_oneByOne d (kc - 1 - 1) (ks - y3 - y3) 76 [some (.ref 19), some (.int (nI s)), some (.int (nI e)), some (.int (nI y3)), some (.ref a25), some (.int x20), some (.ref a33), some (.int (nI c7)), some (.int (nI 1)), none, none, none] [] w22 _
                have lp76_23 : ∀ (fuel : Nat) (w24 : List jC) (nx_76 : Nat → Nat) (f25_76 : Nat → Nat) (f33_76 : Nat → Nat) (c8 : Nat), (RM n mv rw nx_76 b bt kn en dn rf kk th w24) → (FR b b w w24) → (∀ i, nx_76 i < 7) → (w24[a25]? = some (aF y3 f25_76)) → (w24[a33]? = some (aF y3 f33_76)) → (∀ i, f25_76 i < 2) → (∀ i, f33_76 i < y3) → (c8 ≤ (cnt (fun i => f25_76 i == 1) y3)) → (2 * (y3 - (cnt (fun i => f25_76 i == 1) y3)) + c8 < fuel) → J X mX8_oneByOne d (kc - 1 - 1) (ks - y3 - y3) 76 [some (.ref 19), some (.int (nI s)), some (.int (nI e)), some (.int (nI y3)), some (.ref a25), some (.int x20), some (.ref a33), some (.int (nI c7)), some (.int (nI c8)), none, none, none] [] w24 (pI (fun _ => True) (fun w' => ∃ (nx' : Nat → Nat), RM n mv rw nx' b bt kn en dn rf kk th w' ∧ FR b b w w' ∧ (∀ i, nx' i < 7))) := by
                  intro fuellp76_23
                  induction fuellp76_23 with
                  | zero => intros; omega
                  | succ fuellp76_23 ihlp76_23 =>
                    intro w24 nx_76 f25_76 f33_76 c8 hR25 hF26 gx27 hl28 hl29 hv76_0 hv76_1 hv76_2 hf30
                    obtain ⟨h19_31, h20_31, h21_31, h22_31, hb_31, hbl_31, hb3_31⟩ := hR25
                    refine J_iload (pc := 76) dX8_oneByOne_76 rfl ?_
                    refine J_if_leN (pc := 78) (tgt := 161) dX8_oneByOne_78 (by decide) (by omega) (fun ht32 => ?_) (fun hf33 => ?_)
                    · refine J_iincN (pc := 161) (b := 1) dX8_oneByOne_161 rfl (by decide) (by decide) rfl ?_
                      show J X mX8_oneByOne d (kc - 1 - 1) (ks - y3 - y3) 164 [some (.ref 19), some (.int (nI s)), some (.int (nI e)), some (.int (nI y3)), some (.ref a25), some (.int x20), some (.ref a33), some (.int (nI (c7 + 1))), some (.int (nI c8)), none, none, none] [] w24 _
                      refine J_goto (pc := 164) (tgt := 40) dX8_oneByOne_164 (by decide) ?_
                      exact J_sub (L' := [some (.ref 19), some (.int (nI s)), some (.int (nI e)), some (.int (nI y3)), some (.ref a25), some (.int x20), some (.ref a33), some (.int (nI (c7 + 1))), none, none, none, none]) ⟨rfl, ⟨rfl, ⟨rfl, ⟨rfl, ⟨rfl, ⟨rfl, ⟨rfl, ⟨rfl, trivial⟩⟩⟩⟩⟩⟩⟩⟩ (ihlp40_7 w24 nx_76 f25_76 f33_76 x20 (c7 + 1) ⟨h19_31, h20_31, h21_31, h22_31, hb_31, hbl_31, hb3_31⟩ hF26 gx27 hl28 hl29 (by intro i; decide) (by assumption) (by first | assumption | omega) (by omega))
                    · refine J_iincM (pc := 81) dX8_oneByOne_81 rfl (by omega) (by decide) rfl ?_
                      show J X mX8_oneByOne d (kc - 1 - 1) (ks - y3 - y3) 84 [some (.ref 19), some (.int (nI s)), some (.int (nI e)), some (.int (nI y3)), some (.ref a25), some (.int x20), some (.ref a33), some (.int (nI c7)), some (.int (nI (c8 - 1))), none, none, none] [] w24 _
                      refine J_aload (pc := 84) dX8_oneByOne_84 rfl rfl ?_
                      refine J_iload (pc := 86) dX8_oneByOne_86 rfl ?_
                      refine J_ialdF (pc := 88) dX8_oneByOne_88 hl29 (by omega) (by omega) ?_
                      refine J_istore (pc := 89) dX8_oneByOne_89 (by decide) rfl ?_
                      show J X mX8_oneByOne d (kc - 1 - 1) (ks - y3 - y3) 91 [some (.ref 19), some (.int (nI s)), some (.int (nI e)), some (.int (nI y3)), some (.ref a25), some (.int x20), some (.ref a33), some (.int (nI c7)), some (.int (nI (c8 - 1))), some (.int (nI (f33_76 (c8 - 1)))), none, none] [] w24 _
                      refine J_iconst (pc := 91) (v := nI 0) dX8_oneByOne_91 (by decide) ?_
                      refine J_istore (pc := 92) dX8_oneByOne_92 (by decide) rfl ?_
                      show J X mX8_oneByOne d (kc - 1 - 1) (ks - y3 - y3) 94 [some (.ref 19), some (.int (nI s)), some (.int (nI e)), some (.int (nI y3)), some (.ref a25), some (.int x20), some (.ref a33), some (.int (nI c7)), some (.int (nI (c8 - 1))), some (.int (nI (f33_76 (c8 - 1)))), some (.int (nI 0)), none] [] w24 _
                      have lp94_34 : ∀ (fuel : Nat) (w35 : List jC) (nx_94 : Nat → Nat) (f25_94 : Nat → Nat) (f33_94 : Nat → Nat) (x8 : Nat) (c10 : Nat), (RM n mv rw nx_94 b bt kn en dn rf kk th w35) → (FR b b w w35) → (∀ i, nx_94 i < 7) → (w35[a25]? = some (aF y3 f25_94)) → (w35[a33]? = some (aF y3 f33_94)) → (∀ i, f25_94 i < 2) → (∀ i, f33_94 i < y3) → (x8 ≤ (cnt (fun i => f25_94 i == 1) y3)) → (2 * (y3 - (cnt (fun i => f25_94 i == 1) y3)) + x8 + 1 ≤ 2 * (y3 - cnt (fun i => f25_76 i == 1) y3) + c8) → (c10 ≤ 6) → (6 - c10 < fuel) → J X mX8_oneByOne d (kc - 1 - 1) (ks - y3 - y3) 94 [some (.ref 19), some (.int (nI s)), some (.int (nI e)), some (.int (nI y3)), some (.ref a25), some (.int x20), some (.ref a33), some (.int (nI c7)), some (.int (nI x8)), some (.int (nI (f33_76 (c8 - 1)))), some (.int (nI c10)), none] [] w35 (pI (fun _ => True) (fun w' => ∃ (nx' : Nat → Nat), RM n mv rw nx' b bt kn en dn rf kk th w' ∧ FR b b w w' ∧ (∀ i, nx' i < 7))) := by
                        intro fuellp94_34
                        induction fuellp94_34 with
                        | zero => intros; omega
                        | succ fuellp94_34 ihlp94_34 =>
                          intro w35 nx_94 f25_94 f33_94 x8 c10 hR36 hF37 gx38 hl39 hl40 hv94_0 hv94_1 hv94_2 hv94_3 hv94_4 hf41
                          obtain ⟨h19_42, h20_42, h21_42, h22_42, hb_42, hbl_42, hb3_42⟩ := hR36
                          refine J_iload (pc := 94) dX8_oneByOne_94 rfl ?_
                          refine J_bipush (pc := 96) (v := nI 6) dX8_oneByOne_96 (by decide) ?_
                          refine J_icmp_geN (pc := 98) (tgt := 158) dX8_oneByOne_98 (by decide) (by omega) (by omega) (fun ht43 => ?_) (fun hf44 => ?_)
                          · refine J_goto (pc := 158) (tgt := 76) dX8_oneByOne_158 (by decide) ?_
                            exact J_sub (L' := [some (.ref 19), some (.int (nI s)), some (.int (nI e)), some (.int (nI y3)), some (.ref a25), some (.int x20), some (.ref a33), some (.int (nI c7)), some (.int (nI x8)), none, none, none]) ⟨rfl, ⟨rfl, ⟨rfl, ⟨rfl, ⟨rfl, ⟨rfl, ⟨rfl, ⟨rfl, ⟨rfl, trivial⟩⟩⟩⟩⟩⟩⟩⟩⟩ (ihlp76_23 w35 nx_94 f25_94 f33_94 x8 ⟨h19_42, h20_42, h21_42, h22_42, hb_42, hbl_42, hb3_42⟩ hF37 gx38 hl39 hl40 (by assumption) (by assumption) (by omega) (by omega))
                          · refine J_iload_n (pc := 101) dX8_oneByOne_101 rfl rfl ?_
                            refine J_iload (pc := 102) dX8_oneByOne_102 rfl ?_
                            refine J_ishrN (pc := 104) dX8_oneByOne_104 (by omega) (by omega) ?_
                            refine J_iconst (pc := 105) (v := nI 1) dX8_oneByOne_105 (by decide) ?_
                            have hm45 := Nat.mod_lt (s / 2 ^ c10) (show 0 < 2 ^ 1 by decide)
                            have hm46 := Nat.div_le_self s (2 ^ c10)
                            refine J_iandN (pc := 106) 1 dX8_oneByOne_106 (by omega) (by decide) ?_
                            refine J_if_neN (pc := 107) (tgt := 113) dX8_oneByOne_107 (by decide) (by omega) (fun ht47 => ?_) (fun hf48 => ?_)
                            · refine J_aload_n (pc := 113) dX8_oneByOne_113 rfl rfl rfl ?_
                              refine J_iload (pc := 114) dX8_oneByOne_114 rfl ?_
                              refine J_iload (pc := 116) dX8_oneByOne_116 rfl ?_
                              refine J_iload_n (pc := 118) dX8_oneByOne_118 rfl rfl ?_
                              refine J_callV0 (pc := 119) (as := [.int (nI (f33_76 (c8 - 1))), .int (nI c10), .int (nI e)]) dX8_oneByOne_119 fw_X8_coloured fl_X8_206 fm_X8_coloured fe_X8_coloured h19_42 (by decide) rfl rfl rfl (c_X8_coloured hs (d := d - 1) (by omega) (w := w35) (n := n) (mv := mv) (rw := rw) (nx := nx_94) (b := b) (bt := bt) (kn := kn) (en := en) (dn := dn) (rf := rf) (kk := kk) (th := th) ⟨h19_42, h20_42, h21_42, h22_42, hb_42, hbl_42, hb3_42⟩ hn1 hn2 gm gr gx38 (f33_76 (c8 - 1)) c10 e (by first | assumption | omega) (by first | assumption | omega) (by first | assumption | omega) (by first | assumption | omega) (by first | assumption | omega) (kc := 0) (ks := 0)) (by omega) (st := []) (Nat.le_of_ble_eq_true rfl) rfl (kr_I fun v49 w49 hv49 hw49 => ?_) kx_I
                              obtain ⟨nx49, hR49, hFc49, hgnx49⟩ := hw49
                              obtain ⟨h19_49, h20_49, h21_49, h22_49, hbb_49, hbl_49, hb3_49⟩ := hR49
                              have hla25_49 := hFc49.at hl39 (by omega) (by omega)
                              have hla33_49 := hFc49.at hl40 (by omega) (by omega)
                              have hF49 := hF37.tr hFc49
                              obtain ⟨k49, rfl, hk49⟩ := hv49
                              refine J_istore (pc := 122) dX8_oneByOne_122 (by decide) rfl ?_
                              show J X mX8_oneByOne d (kc - 1 - 1) (ks - y3 - y3) 124 [some (.ref 19), some (.int (nI s)), some (.int (nI e)), some (.int (nI y3)), some (.ref a25), some (.int x20), some (.ref a33), some (.int (nI c7)), some (.int (nI x8)), some (.int (nI (f33_76 (c8 - 1)))), some (.int (nI c10)), some (.int (nI k49))] [] w49 _
                              refine J_aload (pc := 124) dX8_oneByOne_124 rfl rfl ?_
                              refine J_iload (pc := 126) dX8_oneByOne_126 rfl ?_
                              refine J_ialdF (pc := 128) dX8_oneByOne_128 hla25_49 (by omega) (by omega) ?_
                              refine J_iconst (pc := 129) (v := nI 1) dX8_oneByOne_129 (by decide) ?_
                              have hq130 := hv94_0 k49
                              refine J_icmp_neN (pc := 130) (tgt := 136) dX8_oneByOne_130 (by decide) (by omega) (by omega) (fun ht50 => ?_) (fun hf51 => ?_)
                              · refine J_aload (pc := 136) dX8_oneByOne_136 rfl rfl ?_
                                refine J_iload (pc := 138) dX8_oneByOne_138 rfl ?_
                                refine J_iconst (pc := 140) (v := nI 1) dX8_oneByOne_140 (by decide) ?_
                                refine J_iastF (pc := 141) dX8_oneByOne_141 hla25_49 (by omega) (by omega) (fun w52 hln52 hc52 hne52 => ?_)
                                have h19_52 := (hne52 19 (by omega)).trans h19_49
                                have h20_52 := (hne52 20 (by omega)).trans h20_49
                                have h21_52 := (hne52 21 (by omega)).trans h21_49
                                have h22_52 := (hne52 22 (by omega)).trans h22_49
                                have hb_52 := (hne52 _ (by omega)).trans hbb_49
                                have hla33_52 := (hne52 a33 (by omega)).trans hla33_49
                                have hF52 := hF49.st hln52 hne52 (Or.inr (Or.inr (by omega)))
                                refine J_aload (pc := 142) dX8_oneByOne_142 rfl rfl ?_
                                refine J_iload (pc := 144) dX8_oneByOne_144 rfl ?_
                                refine J_iload (pc := 146) dX8_oneByOne_146 rfl ?_
                                refine J_iastF (pc := 148) dX8_oneByOne_148 hla33_52 (by omega) (by omega) (fun w53 hln53 hc53 hne53 => ?_)
                                have h19_53 := (hne53 19 (by omega)).trans h19_52
                                have h20_53 := (hne53 20 (by omega)).trans h20_52
                                have h21_53 := (hne53 21 (by omega)).trans h21_52
                                have h22_53 := (hne53 22 (by omega)).trans h22_52
                                have hb_53 := (hne53 _ (by omega)).trans hb_52
                                have hla25_53 := (hne53 a25 (by omega)).trans hc52
                                have hF53 := hF52.st hln53 hne53 (Or.inr (Or.inr (by omega)))
                                refine J_iincN (pc := 149) (b := 1) dX8_oneByOne_149 rfl (by decide) (by decide) rfl ?_
                                show J X mX8_oneByOne d (kc - 1 - 1) (ks - y3 - y3) 152 [some (.ref 19), some (.int (nI s)), some (.int (nI e)), some (.int (nI y3)), some (.ref a25), some (.int x20), some (.ref a33), some (.int (nI c7)), some (.int (nI (x8 + 1))), some (.int (nI (f33_76 (c8 - 1)))), some (.int (nI c10)), some (.int (nI k49))] [] w53 _
                                refine J_iincN (pc := 152) (b := 1) dX8_oneByOne_152 rfl (by decide) (by decide) rfl ?_
                                show J X mX8_oneByOne d (kc - 1 - 1) (ks - y3 - y3) 155 [some (.ref 19), some (.int (nI s)), some (.int (nI e)), some (.int (nI y3)), some (.ref a25), some (.int x20), some (.ref a33), some (.int (nI c7)), some (.int (nI (x8 + 1))), some (.int (nI (f33_76 (c8 - 1)))), some (.int (nI (c10 + 1))), some (.int (nI k49))] [] w53 _
                                refine J_goto (pc := 155) (tgt := 94) dX8_oneByOne_155 (by decide) ?_
                                exact J_sub (L' := [some (.ref 19), some (.int (nI s)), some (.int (nI e)), some (.int (nI y3)), some (.ref a25), some (.int x20), some (.ref a33), some (.int (nI c7)), some (.int (nI (x8 + 1))), some (.int (nI (f33_76 (c8 - 1)))), some (.int (nI (c10 + 1))), none]) ⟨rfl, ⟨rfl, ⟨rfl, ⟨rfl, ⟨rfl, ⟨rfl, ⟨rfl, ⟨rfl, ⟨rfl, ⟨rfl, ⟨rfl, trivial⟩⟩⟩⟩⟩⟩⟩⟩⟩⟩⟩ (ihlp94_34 w53 nx49 (up f25_94 k49 1) (up f33_94 x8 k49) (x8 + 1) (c10 + 1) ⟨h19_53, h20_53, h21_53, h22_53, hb_53, hbl_49, hb3_49⟩ hF53 hgnx49 hla25_53 hc53 (by first | assumption | exact up_b hv94_0 (by decide)) (by first | assumption | exact up_b hv94_1 (by omega)) (by first | assumption | omega) (by first | assumption | omega) (by first | assumption | omega) (by omega))
                              · refine J_goto (pc := 133) (tgt := 152) dX8_oneByOne_133 (by decide) ?_
                                refine J_iincN (pc := 152) (b := 1) dX8_oneByOne_152 rfl (by decide) (by decide) rfl ?_
                                show J X mX8_oneByOne d (kc - 1 - 1) (ks - y3 - y3) 155 [some (.ref 19), some (.int (nI s)), some (.int (nI e)), some (.int (nI y3)), some (.ref a25), some (.int x20), some (.ref a33), some (.int (nI c7)), some (.int (nI x8)), some (.int (nI (f33_76 (c8 - 1)))), some (.int (nI (c10 + 1))), some (.int (nI k49))] [] w49 _
                                refine J_goto (pc := 155) (tgt := 94) dX8_oneByOne_155 (by decide) ?_
                                exact J_sub (L' := [some (.ref 19), some (.int (nI s)), some (.int (nI e)), some (.int (nI y3)), some (.ref a25), some (.int x20), some (.ref a33), some (.int (nI c7)), some (.int (nI x8)), some (.int (nI (f33_76 (c8 - 1)))), some (.int (nI (c10 + 1))), none]) ⟨rfl, ⟨rfl, ⟨rfl, ⟨rfl, ⟨rfl, ⟨rfl, ⟨rfl, ⟨rfl, ⟨rfl, ⟨rfl, ⟨rfl, trivial⟩⟩⟩⟩⟩⟩⟩⟩⟩⟩⟩ (ihlp94_34 w49 nx49 f25_94 f33_94 x8 (c10 + 1) ⟨h19_49, h20_49, h21_49, h22_49, hbb_49, hbl_49, hb3_49⟩ hF49 hgnx49 hla25_49 hla33_49 (by first | assumption | exact up_b hv94_0 (by decide)) (by first | assumption | exact up_b hv94_1 (by omega)) (by first | assumption | omega) (by first | assumption | omega) (by first | assumption | omega) (by omega))
                            · refine J_goto (pc := 110) (tgt := 152) dX8_oneByOne_110 (by decide) ?_
                              refine J_iincN (pc := 152) (b := 1) dX8_oneByOne_152 rfl (by decide) (by decide) rfl ?_
                              show J X mX8_oneByOne d (kc - 1 - 1) (ks - y3 - y3) 155 [some (.ref 19), some (.int (nI s)), some (.int (nI e)), some (.int (nI y3)), some (.ref a25), some (.int x20), some (.ref a33), some (.int (nI c7)), some (.int (nI x8)), some (.int (nI (f33_76 (c8 - 1)))), some (.int (nI (c10 + 1))), none] [] w35 _
                              refine J_goto (pc := 155) (tgt := 94) dX8_oneByOne_155 (by decide) ?_
                              exact J_sub (L' := [some (.ref 19), some (.int (nI s)), some (.int (nI e)), some (.int (nI y3)), some (.ref a25), some (.int x20), some (.ref a33), some (.int (nI c7)), some (.int (nI x8)), some (.int (nI (f33_76 (c8 - 1)))), some (.int (nI (c10 + 1))), none]) ⟨rfl, ⟨rfl, ⟨rfl, ⟨rfl, ⟨rfl, ⟨rfl, ⟨rfl, ⟨rfl, ⟨rfl, ⟨rfl, ⟨rfl, trivial⟩⟩⟩⟩⟩⟩⟩⟩⟩⟩⟩ (ihlp94_34 w35 nx_94 f25_94 f33_94 x8 (c10 + 1) ⟨h19_42, h20_42, h21_42, h22_42, hb_42, hbl_42, hb3_42⟩ hF37 gx38 hl39 hl40 (by first | assumption | exact up_b hv94_0 (by decide)) (by first | assumption | exact up_b hv94_1 (by omega)) (by first | assumption | omega) (by first | assumption | omega) (by first | assumption | omega) (by omega))
                      exact J_sub (L' := [some (.ref 19), some (.int (nI s)), some (.int (nI e)), some (.int (nI y3)), some (.ref a25), some (.int x20), some (.ref a33), some (.int (nI c7)), some (.int (nI (c8 - 1))), some (.int (nI (f33_76 (c8 - 1)))), some (.int (nI 0)), none]) ⟨rfl, ⟨rfl, ⟨rfl, ⟨rfl, ⟨rfl, ⟨rfl, ⟨rfl, ⟨rfl, ⟨rfl, ⟨rfl, ⟨rfl, trivial⟩⟩⟩⟩⟩⟩⟩⟩⟩⟩⟩ (lp94_34 _ w24 nx_76 f25_76 f33_76 (c8 - 1) 0 ⟨h19_31, h20_31, h21_31, h22_31, hb_31, hbl_31, hb3_31⟩ hF26 gx27 hl28 hl29 (by assumption) (by assumption) (by omega) (by omega) (by first | assumption | omega) (Nat.lt_succ_self _))
                exact J_sub (L' := [some (.ref 19), some (.int (nI s)), some (.int (nI e)), some (.int (nI y3)), some (.ref a25), some (.int x20), some (.ref a33), some (.int (nI c7)), some (.int (nI 1)), none, none, none]) ⟨rfl, ⟨rfl, ⟨rfl, ⟨rfl, ⟨rfl, ⟨rfl, ⟨rfl, ⟨rfl, ⟨rfl, trivial⟩⟩⟩⟩⟩⟩⟩⟩⟩ (lp76_23 _ w22 nx_40 (up f25_40 c7 1) (up f33_40 0 c7) 1 ⟨h19_22, h20_22, h21_22, h22_22, hb_22, hbl_15, hb3_15⟩ hF22 gx11 hla25_22 hc22 (by exact up_b hv40_0 (by decide)) (by exact up_b hv40_1 (by omega)) (by exact cnt_pos _ c7 (by omega) (by rw [up_s]; rfl)) (Nat.lt_succ_self _))
              · refine J_goto (pc := 55) (tgt := 161) dX8_oneByOne_55 (by decide) ?_
                refine J_iincN (pc := 161) (b := 1) dX8_oneByOne_161 rfl (by decide) (by decide) rfl ?_
                show J X mX8_oneByOne d (kc - 1 - 1) (ks - y3 - y3) 164 [some (.ref 19), some (.int (nI s)), some (.int (nI e)), some (.int (nI y3)), some (.ref a25), some (.int z5), some (.ref a33), some (.int (nI (c7 + 1))), none, none, none, none] [] w8 _
                refine J_goto (pc := 164) (tgt := 40) dX8_oneByOne_164 (by decide) ?_
                exact J_sub (L' := [some (.ref 19), some (.int (nI s)), some (.int (nI e)), some (.int (nI y3)), some (.ref a25), some (.int z5), some (.ref a33), some (.int (nI (c7 + 1))), none, none, none, none]) ⟨rfl, ⟨rfl, ⟨rfl, ⟨rfl, ⟨rfl, ⟨rfl, ⟨rfl, ⟨rfl, trivial⟩⟩⟩⟩⟩⟩⟩⟩ (ihlp40_7 w8 nx_40 f25_40 f33_40 z5 (c7 + 1) ⟨h19_15, h20_15, h21_15, h22_15, hb_15, hbl_15, hb3_15⟩ hF10 gx11 hl12 hl13 (by intro i; decide) (by assumption) (by first | assumption | omega) (by omega))
        exact J_sub (L' := [some (.ref 19), some (.int (nI s)), some (.int (nI e)), some (.int (nI y3)), some (.ref a25), some (.int (nI 0)), some (.ref a33), some (.int (nI 0)), none, none, none, none]) ⟨rfl, ⟨rfl, ⟨rfl, ⟨rfl, ⟨rfl, ⟨rfl, ⟨rfl, ⟨rfl, trivial⟩⟩⟩⟩⟩⟩⟩⟩ (lp40_7 _ w6 nx (fun _ => 0) (fun _ => 0) (nI 0) 0 ⟨h19_6, h20_6, h21_6, h22_6, hb_6, hbl, hb3⟩ hF6 gx hla25_6 hc6 (by intro i; decide) (by intro i; exact hy31) (by first | assumption | omega) (Nat.lt_succ_self _))
      · refine J_iload_n (pc := 14) dX8_oneByOne_14 rfl rfl ?_
        refine J_iload_n (pc := 15) dX8_oneByOne_15 rfl rfl ?_
        refine J_imulN (pc := 16) dX8_oneByOne_16 ?_
        refine J_istore_n (pc := 17) dX8_oneByOne_17 rfl (by decide) rfl ?_
        show J X mX8_oneByOne d kc ks 18 [some (.ref 19), some (.int (nI s)), some (.int (nI e)), some (.int (nI (y3 * e))), some (.int (nI c4)), none, none, none, none, none, none, none] [] w _
        refine J_iincN (pc := 18) (b := 1) dX8_oneByOne_18 rfl (by decide) (by decide) rfl ?_
        show J X mX8_oneByOne d kc ks 21 [some (.ref 19), some (.int (nI s)), some (.int (nI e)), some (.int (nI (y3 * e))), some (.int (nI (c4 + 1))), none, none, none, none, none, none, none] [] w _
        refine J_goto (pc := 21) (tgt := 5) dX8_oneByOne_21 (by decide) ?_
        exact J_sub (L' := [some (.ref 19), some (.int (nI s)), some (.int (nI e)), some (.int (nI (y3 * e))), some (.int (nI (c4 + 1))), none, none, none, none, none, none, none]) ⟨rfl, ⟨rfl, ⟨rfl, ⟨rfl, ⟨rfl, trivial⟩⟩⟩⟩⟩ (ihlp5_1 (y3 * e) (c4 + 1) (by rw [hv5_0]; exact (Nat.pow_succ e c4).symm) (by first | assumption | omega) (by omega))
  exact J_sub (L' := [some (.ref 19), some (.int (nI s)), some (.int (nI e)), some (.int (nI 1)), some (.int (nI 0)), none, none, none, none, none, none, none]) ⟨rfl, ⟨rfl, ⟨rfl, ⟨rfl, ⟨rfl, trivial⟩⟩⟩⟩⟩ (lp5_1 _ 1 0 (by rfl) (by first | assumption | omega) (Nat.lt_succ_self _))
set_option maxRecDepth 100000 in
set_option maxHeartbeats 4000000 in
theorem c_X8_colourings {X : jX} (hs : X.1.stackTraces = false) {d : Nat} (hd : 5 ≤ d) {n : Nat} {mv rw nx : Nat → Nat} {b : Nat} {bt : List Int32} {kn en dn rf kk th : Int32} {w : List jC} (hR : RM n mv rw nx b bt kn en dn rf kk th w) (hn1 : 2 ≤ n) (hn2 : n ≤ 7) (gm : ∀ i, mv i < 7) (gr : ∀ i, rw i < 7) (gx : ∀ i, nx i < 7) (s : Int32) (c : Int32) (e : Int32) (hy0 : PM n mv) (hy1 : KB n kn bt) {kc ks : Nat} (hkc : 15 ≤ kc) (hks : 6428 ≤ ks) : jMet X mX8_colourings d kc ks [.ref 19, .int s, .int c, .int e] w (pI (fun _ => True) (fun w' => ∃ (rw' : Nat → Nat), ∃ (nx' : Nat → Nat), ∃ (b' : Nat), ∃ (bt' : List Int32), ∃ (kn' : Int32), ∃ (en' : Int32), ∃ (th' : Int32), RM n mv rw' nx' b' bt' kn' en' dn rf kk th' w' ∧ FR b b' w w' ∧ (∀ i, rw' i < 7) ∧ (∀ i, nx' i < 7) ∧ KB n kn' bt')) := by
  refine jMet_of hs (by decide +kernel) (Nat.le_of_ble_eq_true rfl) (L := [some (.ref 19), some (.int s), some (.int c), some (.int e)]) rfl ?_
  have hfc := fc_7 hn2
  have hfp := fc_pos n
  obtain ⟨h19, h20, h21, h22, hbb, hbl, hb3⟩ := hR
  have hF : FR b b w w := FR.rf
  refine J_aload_n (pc := 0) dX8_colourings_0 rfl rfl rfl ?_
  refine J_iload_n (pc := 1) dX8_colourings_1 rfl rfl ?_
  refine J_callS0 (pc := 2) (as := [.int s]) dX8_colourings_2 fw_X8_isSet fl_X8_134 fs_X8_isSet rfl (c_X8_isSet hs (d := d - 1) (by omega) (w := w) s (kc := 0) (ks := 0)) (by omega) (st := [.ref 19]) (Nat.le_of_ble_eq_true rfl) rfl (kr_P fun v1 hv1 => ?_) kx_I
  rcases hv1 with ⟨rfl, hk1_0⟩ | ⟨q1, rfl, hk1_0, rfl⟩
  · refine J_if_eqN (pc := 5) (tgt := 27) dX8_colourings_5 (by decide) (by decide) (fun _ => ?_) (fun h => absurd h (by decide))
    refine J_iconst (pc := 27) (v := nI 1) dX8_colourings_27 (by decide) ?_
    refine J_goto (pc := 28) (tgt := 32) dX8_colourings_28 (by decide) ?_
    refine J_callV0 (pc := 32) (as := [.int (nI 1)]) dX8_colourings_32 fw_X8_isThrown_ fl_X8_105 fm_X8_isThrown_ fe_X8_isThrown_ h19 (by decide) rfl rfl rfl (c_X8_isThrown_ hs (d := d - 1) (by omega) (w := w) (n := n) (mv := mv) (rw := rw) (nx := nx) (b := b) (bt := bt) (kn := kn) (en := en) (dn := dn) (rf := rf) (kk := kk) (th := th) ⟨h19, h20, h21, h22, hbb, hbl, hb3⟩ hn1 hn2 gm gr gx 1 (by first | assumption | omega) (kc := 0) (ks := 0)) (by omega) (st := []) (Nat.le_of_ble_eq_true rfl) rfl (kr_I fun v2 w2 hv2 hw2 => ?_) kx_I
    obtain ⟨hR2, hFc2⟩ := hw2
    obtain ⟨h19_2, h20_2, h21_2, h22_2, hbb_2, hbl_2, hb3_2⟩ := hR2
    have hF2 := hF.tr hFc2
    subst hv2
    show J X mX8_colourings d kc ks 35 [some (.ref 19), some (.int s), some (.int c), some (.int e)] [.int (nI 1)] w2 _
    refine J_if_eqN (pc := 35) (tgt := 40) dX8_colourings_35 (by decide) (by decide) (fun h => absurd h (by decide)) (fun _ => ?_)
    refine J_iconst (pc := 38) (v := nI 0) dX8_colourings_38 (by decide) ?_
    exact J_iret (pc := 39) dX8_colourings_39 rfl ⟨trivial, ⟨rw, nx, b, bt, kn, en, nI (tW 1 0), ⟨h19_2, h20_2, h21_2, h22_2, hbb_2, hbl_2, hb3_2⟩, hF2, gr, gx, (by first | assumption | exact Or.inr (by assumption))⟩⟩
  · refine J_if_eqN (pc := 5) (tgt := 27) dX8_colourings_5 (by decide) (by decide) (fun h => absurd h (by decide)) (fun _ => ?_)
    refine J_iload_n (pc := 8) dX8_colourings_8 rfl rfl ?_
    refine J_iconst (pc := 9) (v := nI 1) dX8_colourings_9 (by decide) ?_
    refine J_icmp_lt (pc := 10) (tgt := 27) dX8_colourings_10 (by decide) (fun ht3 => ?_) (fun hf4 => ?_)
    · refine J_iconst (pc := 27) (v := nI 1) dX8_colourings_27 (by decide) ?_
      refine J_goto (pc := 28) (tgt := 32) dX8_colourings_28 (by decide) ?_
      refine J_callV0 (pc := 32) (as := [.int (nI 1)]) dX8_colourings_32 fw_X8_isThrown_ fl_X8_105 fm_X8_isThrown_ fe_X8_isThrown_ h19 (by decide) rfl rfl rfl (c_X8_isThrown_ hs (d := d - 1) (by omega) (w := w) (n := n) (mv := mv) (rw := rw) (nx := nx) (b := b) (bt := bt) (kn := kn) (en := en) (dn := dn) (rf := rf) (kk := kk) (th := th) ⟨h19, h20, h21, h22, hbb, hbl, hb3⟩ hn1 hn2 gm gr gx 1 (by first | assumption | omega) (kc := 0) (ks := 0)) (by omega) (st := []) (Nat.le_of_ble_eq_true rfl) rfl (kr_I fun v5 w5 hv5 hw5 => ?_) kx_I
      obtain ⟨hR5, hFc5⟩ := hw5
      obtain ⟨h19_5, h20_5, h21_5, h22_5, hbb_5, hbl_5, hb3_5⟩ := hR5
      have hF5 := hF.tr hFc5
      subst hv5
      show J X mX8_colourings d kc ks 35 [some (.ref 19), some (.int (nI q1)), some (.int c), some (.int e)] [.int (nI 1)] w5 _
      refine J_if_eqN (pc := 35) (tgt := 40) dX8_colourings_35 (by decide) (by decide) (fun h => absurd h (by decide)) (fun _ => ?_)
      refine J_iconst (pc := 38) (v := nI 0) dX8_colourings_38 (by decide) ?_
      exact J_iret (pc := 39) dX8_colourings_39 rfl ⟨trivial, ⟨rw, nx, b, bt, kn, en, nI (tW 1 0), ⟨h19_5, h20_5, h21_5, h22_5, hbb_5, hbl_5, hb3_5⟩, hF5, gr, gx, (by first | assumption | exact Or.inr (by assumption))⟩⟩
    · refine J_iload_n (pc := 13) dX8_colourings_13 rfl rfl ?_
      refine J_iconst (pc := 14) (v := nI 3) dX8_colourings_14 (by decide) ?_
      refine J_icmp_gt (pc := 15) (tgt := 27) dX8_colourings_15 (by decide) (fun ht6 => ?_) (fun hf7 => ?_)
      · refine J_iconst (pc := 27) (v := nI 1) dX8_colourings_27 (by decide) ?_
        refine J_goto (pc := 28) (tgt := 32) dX8_colourings_28 (by decide) ?_
        refine J_callV0 (pc := 32) (as := [.int (nI 1)]) dX8_colourings_32 fw_X8_isThrown_ fl_X8_105 fm_X8_isThrown_ fe_X8_isThrown_ h19 (by decide) rfl rfl rfl (c_X8_isThrown_ hs (d := d - 1) (by omega) (w := w) (n := n) (mv := mv) (rw := rw) (nx := nx) (b := b) (bt := bt) (kn := kn) (en := en) (dn := dn) (rf := rf) (kk := kk) (th := th) ⟨h19, h20, h21, h22, hbb, hbl, hb3⟩ hn1 hn2 gm gr gx 1 (by first | assumption | omega) (kc := 0) (ks := 0)) (by omega) (st := []) (Nat.le_of_ble_eq_true rfl) rfl (kr_I fun v8 w8 hv8 hw8 => ?_) kx_I
        obtain ⟨hR8, hFc8⟩ := hw8
        obtain ⟨h19_8, h20_8, h21_8, h22_8, hbb_8, hbl_8, hb3_8⟩ := hR8
        have hF8 := hF.tr hFc8
        subst hv8
        show J X mX8_colourings d kc ks 35 [some (.ref 19), some (.int (nI q1)), some (.int c), some (.int e)] [.int (nI 1)] w8 _
        refine J_if_eqN (pc := 35) (tgt := 40) dX8_colourings_35 (by decide) (by decide) (fun h => absurd h (by decide)) (fun _ => ?_)
        refine J_iconst (pc := 38) (v := nI 0) dX8_colourings_38 (by decide) ?_
        exact J_iret (pc := 39) dX8_colourings_39 rfl ⟨trivial, ⟨rw, nx, b, bt, kn, en, nI (tW 1 0), ⟨h19_8, h20_8, h21_8, h22_8, hbb_8, hbl_8, hb3_8⟩, hF8, gr, gx, (by first | assumption | exact Or.inr (by assumption))⟩⟩
      · refine J_iload_n (pc := 18) dX8_colourings_18 rfl rfl ?_
        refine J_if_lt (pc := 19) (tgt := 27) dX8_colourings_19 (by decide) (fun ht9 => ?_) (fun hf10 => ?_)
        · refine J_iconst (pc := 27) (v := nI 1) dX8_colourings_27 (by decide) ?_
          refine J_goto (pc := 28) (tgt := 32) dX8_colourings_28 (by decide) ?_
          refine J_callV0 (pc := 32) (as := [.int (nI 1)]) dX8_colourings_32 fw_X8_isThrown_ fl_X8_105 fm_X8_isThrown_ fe_X8_isThrown_ h19 (by decide) rfl rfl rfl (c_X8_isThrown_ hs (d := d - 1) (by omega) (w := w) (n := n) (mv := mv) (rw := rw) (nx := nx) (b := b) (bt := bt) (kn := kn) (en := en) (dn := dn) (rf := rf) (kk := kk) (th := th) ⟨h19, h20, h21, h22, hbb, hbl, hb3⟩ hn1 hn2 gm gr gx 1 (by first | assumption | omega) (kc := 0) (ks := 0)) (by omega) (st := []) (Nat.le_of_ble_eq_true rfl) rfl (kr_I fun v11 w11 hv11 hw11 => ?_) kx_I
          obtain ⟨hR11, hFc11⟩ := hw11
          obtain ⟨h19_11, h20_11, h21_11, h22_11, hbb_11, hbl_11, hb3_11⟩ := hR11
          have hF11 := hF.tr hFc11
          subst hv11
          show J X mX8_colourings d kc ks 35 [some (.ref 19), some (.int (nI q1)), some (.int c), some (.int e)] [.int (nI 1)] w11 _
          refine J_if_eqN (pc := 35) (tgt := 40) dX8_colourings_35 (by decide) (by decide) (fun h => absurd h (by decide)) (fun _ => ?_)
          refine J_iconst (pc := 38) (v := nI 0) dX8_colourings_38 (by decide) ?_
          exact J_iret (pc := 39) dX8_colourings_39 rfl ⟨trivial, ⟨rw, nx, b, bt, kn, en, nI (tW 1 0), ⟨h19_11, h20_11, h21_11, h22_11, hbb_11, hbl_11, hb3_11⟩, hF11, gr, gx, (by first | assumption | exact Or.inr (by assumption))⟩⟩
        · refine J_iload_n (pc := 22) dX8_colourings_22 rfl rfl ?_
          refine J_iconst (pc := 23) (v := nI 1) dX8_colourings_23 (by decide) ?_
          refine J_icmp_le (pc := 24) (tgt := 31) dX8_colourings_24 (by decide) (fun ht12 => ?_) (fun hf13 => ?_)
          · refine J_iconst (pc := 31) (v := nI 0) dX8_colourings_31 (by decide) ?_
            refine J_callV0 (pc := 32) (as := [.int (nI 0)]) dX8_colourings_32 fw_X8_isThrown_ fl_X8_105 fm_X8_isThrown_ fe_X8_isThrown_ h19 (by decide) rfl rfl rfl (c_X8_isThrown_ hs (d := d - 1) (by omega) (w := w) (n := n) (mv := mv) (rw := rw) (nx := nx) (b := b) (bt := bt) (kn := kn) (en := en) (dn := dn) (rf := rf) (kk := kk) (th := th) ⟨h19, h20, h21, h22, hbb, hbl, hb3⟩ hn1 hn2 gm gr gx 0 (by first | assumption | omega) (kc := 0) (ks := 0)) (by omega) (st := []) (Nat.le_of_ble_eq_true rfl) rfl (kr_I fun v14 w14 hv14 hw14 => ?_) kx_I
            obtain ⟨hR14, hFc14⟩ := hw14
            obtain ⟨h19_14, h20_14, h21_14, h22_14, hbb_14, hbl_14, hb3_14⟩ := hR14
            have hF14 := hF.tr hFc14
            subst hv14
            show J X mX8_colourings d kc ks 35 [some (.ref 19), some (.int (nI q1)), some (.int c), some (.int e)] [.int (nI 0)] w14 _
            refine J_if_eqN (pc := 35) (tgt := 40) dX8_colourings_35 (by decide) (by decide) (fun _ => ?_) (fun h => absurd h (by decide))
            obtain ⟨k15, hk15a, hk15b, rfl⟩ := nI_btw (x := c) (a := 1) (b := 3) (Int32.not_lt.mp (by assumption)) (Int32.not_lt.mp (by assumption)) (by omega) (by omega)
            refine J_iload_n (pc := 40) dX8_colourings_40 rfl rfl ?_
            refine J_if_ne (pc := 41) (tgt := 53) dX8_colourings_41 (by decide) (fun ht16 => ?_) (fun hf17 => ?_)
            · refine J_aload_n (pc := 53) dX8_colourings_53 rfl rfl rfl ?_
              refine J_iload_n (pc := 54) dX8_colourings_54 rfl rfl ?_
              refine J_iload_n (pc := 55) dX8_colourings_55 rfl rfl ?_
              refine J_callV (pc := 56) (as := [.int (nI q1), .int (nI k15)]) dX8_colourings_56 fw_X8_oneByOne fl_X8_200 fm_X8_oneByOne fe_X8_oneByOne h19_14 (by decide) rfl rfl rfl (c_X8_oneByOne hs (d := d - 1) (by omega) (w := w14) (n := n) (mv := mv) (rw := rw) (nx := nx) (b := b) (bt := bt) (kn := kn) (en := en) (dn := dn) (rf := rf) (kk := kk) (th := nI (tW 0 0)) ⟨h19_14, h20_14, h21_14, h22_14, hbb_14, hbl_14, hb3_14⟩ hn1 hn2 gm gr gx q1 k15 (by first | assumption | omega) (by first | assumption | omega) (by first | assumption | omega) (by first | assumption | omega) (kc := 2) (ks := 4374) (Nat.le_refl _) (Nat.le_refl _)) (by omega) (by omega) (by omega) (st := []) (Nat.le_of_ble_eq_true rfl) rfl (kr_I fun v18 w18 hv18 hw18 => ?_) kx_I
              obtain ⟨nx18, hR18, hFc18, hgnx18⟩ := hw18
              obtain ⟨h19_18, h20_18, h21_18, h22_18, hbb_18, hbl_18, hb3_18⟩ := hR18
              have hF18 := hF14.tr hFc18
              exact J_iret (pc := 59) dX8_colourings_59 rfl ⟨trivial, ⟨rw, nx18, b, bt, kn, en, nI (tW 0 0), ⟨h19_18, h20_18, h21_18, h22_18, hbb_18, hbl_18, hb3_18⟩, hF18, gr, hgnx18, (by first | assumption | exact Or.inr (by assumption))⟩⟩
            · refine J_aload_n (pc := 44) dX8_colourings_44 rfl rfl rfl ?_
              refine J_iload_n (pc := 45) dX8_colourings_45 rfl rfl ?_
              refine J_iload_n (pc := 46) dX8_colourings_46 rfl rfl ?_
              refine J_callV (pc := 47) (as := [.int (nI q1), .int (nI k15)]) dX8_colourings_47 fw_X8_byThoseThatStay fl_X8_197 fm_X8_byThoseThatStay fe_X8_byThoseThatStay h19_14 (by decide) rfl rfl rfl (c_X8_byThoseThatStay hs (d := d - 1) (by omega) (w := w14) (n := n) (mv := mv) (rw := rw) (nx := nx) (b := b) (bt := bt) (kn := kn) (en := en) (dn := dn) (rf := rf) (kk := kk) (th := nI (tW 0 0)) ⟨h19_14, h20_14, h21_14, h22_14, hbb_14, hbl_14, hb3_14⟩ hn1 hn2 gm gr gx q1 (nI k15) (by first | assumption | omega) (by first | assumption | omega) (by first | assumption | omega) (kc := 13) (ks := 2054) (Nat.le_refl _) (Nat.le_refl _)) (by omega) (by omega) (by omega) (st := []) (Nat.le_of_ble_eq_true rfl) rfl (kr_I fun v19 w19 hv19 hw19 => ?_) kx_I
              obtain ⟨rw19, nx19, b19, bt19, kn19, en19, hR19, hFc19, hgrw19, hgnx19, hp19_0, hp19_1⟩ := hw19
              obtain ⟨h19_19, h20_19, h21_19, h22_19, hbb_19, hbl_19, hb3_19⟩ := hR19
              have qd19 := hFc19.2.1
              have hF19 := hF14.tr hFc19
              refine J_goto (pc := 50) (tgt := 59) dX8_colourings_50 (by decide) ?_
              exact J_iret (pc := 59) dX8_colourings_59 rfl ⟨trivial, ⟨rw19, nx19, b19, bt19, kn19, en19, nI (tW 0 0), ⟨h19_19, h20_19, h21_19, h22_19, hbb_19, hbl_19, hb3_19⟩, hF19, hgrw19, hgnx19, (by first | assumption | exact Or.inr (by assumption))⟩⟩
          · refine J_iconst (pc := 27) (v := nI 1) dX8_colourings_27 (by decide) ?_
            refine J_goto (pc := 28) (tgt := 32) dX8_colourings_28 (by decide) ?_
            refine J_callV0 (pc := 32) (as := [.int (nI 1)]) dX8_colourings_32 fw_X8_isThrown_ fl_X8_105 fm_X8_isThrown_ fe_X8_isThrown_ h19 (by decide) rfl rfl rfl (c_X8_isThrown_ hs (d := d - 1) (by omega) (w := w) (n := n) (mv := mv) (rw := rw) (nx := nx) (b := b) (bt := bt) (kn := kn) (en := en) (dn := dn) (rf := rf) (kk := kk) (th := th) ⟨h19, h20, h21, h22, hbb, hbl, hb3⟩ hn1 hn2 gm gr gx 1 (by first | assumption | omega) (kc := 0) (ks := 0)) (by omega) (st := []) (Nat.le_of_ble_eq_true rfl) rfl (kr_I fun v20 w20 hv20 hw20 => ?_) kx_I
            obtain ⟨hR20, hFc20⟩ := hw20
            obtain ⟨h19_20, h20_20, h21_20, h22_20, hbb_20, hbl_20, hb3_20⟩ := hR20
            have hF20 := hF.tr hFc20
            subst hv20
            show J X mX8_colourings d kc ks 35 [some (.ref 19), some (.int (nI q1)), some (.int c), some (.int e)] [.int (nI 1)] w20 _
            refine J_if_eqN (pc := 35) (tgt := 40) dX8_colourings_35 (by decide) (by decide) (fun h => absurd h (by decide)) (fun _ => ?_)
            refine J_iconst (pc := 38) (v := nI 0) dX8_colourings_38 (by decide) ?_
            exact J_iret (pc := 39) dX8_colourings_39 rfl ⟨trivial, ⟨rw, nx, b, bt, kn, en, nI (tW 1 0), ⟨h19_20, h20_20, h21_20, h22_20, hbb_20, hbl_20, hb3_20⟩, hF20, gr, gx, (by first | assumption | exact Or.inr (by assumption))⟩⟩
set_option maxRecDepth 100000 in
set_option maxHeartbeats 4000000 in
theorem c_X8_isPartNow {X : jX} (hs : X.1.stackTraces = false) {d : Nat} (hd : 5 ≤ d) {n : Nat} {mv rw nx : Nat → Nat} {b : Nat} {bt : List Int32} {kn en dn rf kk th : Int32} {w : List jC} (hR : RM n mv rw nx b bt kn en dn rf kk th w) (hn1 : 2 ≤ n) (hn2 : n ≤ 7) (gm : ∀ i, mv i < 7) (gr : ∀ i, rw i < 7) (gx : ∀ i, nx i < 7) (s : Nat) (e : Nat) (hy0 : s < 64) (hy1 : e < 64) (hy2 : PM n mv) (hy3 : KB n kn bt) {kc ks : Nat} (hkc : 78 ≤ kc) (hks : 12324 ≤ ks) : jMet X mX8_isPartNow d kc ks [.ref 19, .int (nI s), .int (nI e)] w (pI (fun v => ∃ k : Nat, v = nI k ∧ k < 2) (fun w' => ∃ (rw' : Nat → Nat), ∃ (nx' : Nat → Nat), ∃ (b' : Nat), ∃ (bt' : List Int32), ∃ (kn' : Int32), ∃ (en' : Int32), RM n mv rw' nx' b' bt' kn' en' dn rf kk th w' ∧ FR b b' w w' ∧ (∀ i, rw' i < 7) ∧ (∀ i, nx' i < 7) ∧ KB n kn' bt')) := by
  refine jMet_of hs (by decide +kernel) (Nat.le_of_ble_eq_true rfl) (L := [some (.ref 19), some (.int (nI s)), some (.int (nI e)), none, none]) rfl ?_
  have hfc := fc_7 hn2
  have hfp := fc_pos n
  obtain ⟨h19, h20, h21, h22, hbb, hbl, hb3⟩ := hR
  have hF : FR b b w w := FR.rf
  refine J_iconst (pc := 0) (v := nI 1) dX8_isPartNow_0 (by decide) ?_
  refine J_istore_n (pc := 1) dX8_isPartNow_1 rfl (by decide) rfl ?_
  show J X mX8_isPartNow d kc ks 2 [some (.ref 19), some (.int (nI s)), some (.int (nI e)), some (.int (nI 1)), none] [] w _
  refine J_iconst (pc := 2) (v := nI 0) dX8_isPartNow_2 (by decide) ?_
  refine J_istore (pc := 3) dX8_isPartNow_3 (by decide) rfl ?_
  show J X mX8_isPartNow d kc ks 5 [some (.ref 19), some (.int (nI s)), some (.int (nI e)), some (.int (nI 1)), some (.int (nI 0))] [] w _
  have lp5_1 : ∀ (fuel : Nat) (kc2 ks3 : Nat) (w4 : List jC) (rw_5 : Nat → Nat) (nx_5 : Nat → Nat) (b_5 : Nat) (bt_5 : List Int32) (kn_5 : Int32) (en_5 : Int32) (y3 : Nat) (c4 : Nat), (RM n mv rw_5 nx_5 b_5 bt_5 kn_5 en_5 dn rf kk th w4) → (FR b b_5 w w4) → (∀ i, rw_5 i < 7) → (∀ i, nx_5 i < 7) → ((6 - c4) * 13 ≤ kc2) → ((6 - c4) * 2054 ≤ ks3) → (y3 < 2) → (KB n kn_5 bt_5) → (c4 ≤ 6) → (6 - c4 < fuel) → J X mX8_isPartNow d kc2 ks3 5 [some (.ref 19), some (.int (nI s)), some (.int (nI e)), some (.int (nI y3)), some (.int (nI c4))] [] w4 (pI (fun v => ∃ k : Nat, v = nI k ∧ k < 2) (fun w' => ∃ (rw' : Nat → Nat), ∃ (nx' : Nat → Nat), ∃ (b' : Nat), ∃ (bt' : List Int32), ∃ (kn' : Int32), ∃ (en' : Int32), RM n mv rw' nx' b' bt' kn' en' dn rf kk th w' ∧ FR b b' w w' ∧ (∀ i, rw' i < 7) ∧ (∀ i, nx' i < 7) ∧ KB n kn' bt')) := by
    intro fuellp5_1
    induction fuellp5_1 with
    | zero => intros; omega
    | succ fuellp5_1 ihlp5_1 =>
      intro kc2 ks3 w4 rw_5 nx_5 b_5 bt_5 kn_5 en_5 y3 c4 hR5 hF6 gr7 gx8 hr9 hr10 hv5_0 hv5_1 hv5_2 hf11
      obtain ⟨h19_12, h20_12, h21_12, h22_12, hb_12, hbl_12, hb3_12⟩ := hR5
      refine J_iload (pc := 5) dX8_isPartNow_5 rfl ?_
      refine J_bipush (pc := 7) (v := nI 6) dX8_isPartNow_7 (by decide) ?_
      refine J_icmp_geN (pc := 9) (tgt := 48) dX8_isPartNow_9 (by decide) (by omega) (by omega) (fun ht13 => ?_) (fun hf14 => ?_)
      · refine J_iload_n (pc := 48) dX8_isPartNow_48 rfl rfl ?_
        exact J_zret (pc := 49) dX8_isPartNow_49 rfl (nar_b (by first | decide | omega)) ⟨⟨y3, rfl, by omega⟩, ⟨rw_5, nx_5, b_5, bt_5, kn_5, en_5, ⟨h19_12, h20_12, h21_12, h22_12, hb_12, hbl_12, hb3_12⟩, hF6, gr7, gx8, (by first | assumption | exact Or.inr (by assumption))⟩⟩
      · refine J_iload_n (pc := 12) dX8_isPartNow_12 rfl rfl ?_
        refine J_iload (pc := 13) dX8_isPartNow_13 rfl ?_
        refine J_ishrN (pc := 15) dX8_isPartNow_15 (by omega) (by omega) ?_
        refine J_iconst (pc := 16) (v := nI 1) dX8_isPartNow_16 (by decide) ?_
        have hm15 := Nat.mod_lt (s / 2 ^ c4) (show 0 < 2 ^ 1 by decide)
        have hm16 := Nat.div_le_self s (2 ^ c4)
        refine J_iandN (pc := 17) 1 dX8_isPartNow_17 (by omega) (by decide) ?_
        refine J_iconst (pc := 18) (v := nI 1) dX8_isPartNow_18 (by decide) ?_
        refine J_icmp_neN (pc := 19) (tgt := 42) dX8_isPartNow_19 (by decide) (by omega) (by omega) (fun ht17 => ?_) (fun hf18 => ?_)
        · refine J_iincN (pc := 42) (b := 1) dX8_isPartNow_42 rfl (by decide) (by decide) rfl ?_
          show J X mX8_isPartNow d kc2 ks3 45 [some (.ref 19), some (.int (nI s)), some (.int (nI e)), some (.int (nI y3)), some (.int (nI (c4 + 1)))] [] w4 _
          refine J_goto (pc := 45) (tgt := 5) dX8_isPartNow_45 (by decide) ?_
          exact J_sub (L' := [some (.ref 19), some (.int (nI s)), some (.int (nI e)), some (.int (nI y3)), some (.int (nI (c4 + 1)))]) ⟨rfl, ⟨rfl, ⟨rfl, ⟨rfl, ⟨rfl, trivial⟩⟩⟩⟩⟩ (ihlp5_1 _ _ w4 rw_5 nx_5 b_5 bt_5 kn_5 en_5 y3 (c4 + 1) ⟨h19_12, h20_12, h21_12, h22_12, hb_12, hbl_12, hb3_12⟩ hF6 gr7 gx8 (by omega) (by omega) (by first | assumption | omega) (by first | assumption | exact Or.inr (by assumption)) (by first | assumption | omega) (by omega))
        · refine J_iload_n (pc := 22) dX8_isPartNow_22 rfl rfl ?_
          refine J_if_eqN (pc := 23) (tgt := 40) dX8_isPartNow_23 (by decide) (by omega) (fun ht19 => ?_) (fun hf20 => ?_)
          · refine J_iconst (pc := 40) (v := nI 0) dX8_isPartNow_40 (by decide) ?_
            refine J_istore_n (pc := 41) dX8_isPartNow_41 rfl (by decide) rfl ?_
            show J X mX8_isPartNow d kc2 ks3 42 [some (.ref 19), some (.int (nI s)), some (.int (nI e)), some (.int (nI 0)), some (.int (nI c4))] [] w4 _
            refine J_iincN (pc := 42) (b := 1) dX8_isPartNow_42 rfl (by decide) (by decide) rfl ?_
            show J X mX8_isPartNow d kc2 ks3 45 [some (.ref 19), some (.int (nI s)), some (.int (nI e)), some (.int (nI 0)), some (.int (nI (c4 + 1)))] [] w4 _
            refine J_goto (pc := 45) (tgt := 5) dX8_isPartNow_45 (by decide) ?_
            exact J_sub (L' := [some (.ref 19), some (.int (nI s)), some (.int (nI e)), some (.int (nI 0)), some (.int (nI (c4 + 1)))]) ⟨rfl, ⟨rfl, ⟨rfl, ⟨rfl, ⟨rfl, trivial⟩⟩⟩⟩⟩ (ihlp5_1 _ _ w4 rw_5 nx_5 b_5 bt_5 kn_5 en_5 0 (c4 + 1) ⟨h19_12, h20_12, h21_12, h22_12, hb_12, hbl_12, hb3_12⟩ hF6 gr7 gx8 (by omega) (by omega) (by first | assumption | omega) (by first | assumption | exact Or.inr (by assumption)) (by first | assumption | omega) (by omega))
          · refine J_aload_n (pc := 26) dX8_isPartNow_26 rfl rfl rfl ?_
            refine J_iload_n (pc := 27) dX8_isPartNow_27 rfl rfl ?_
            refine J_iload (pc := 28) dX8_isPartNow_28 rfl ?_
            refine J_callV (pc := 30) (as := [.int (nI e), .int (nI c4)]) dX8_isPartNow_30 fw_X8_isInNow fl_X8_185 fm_X8_isInNow fe_X8_isInNow h19_12 (by decide) rfl rfl rfl (c_X8_isInNow hs (d := d - 1) (by omega) (w := w4) (n := n) (mv := mv) (rw := rw_5) (nx := nx_5) (b := b_5) (bt := bt_5) (kn := kn_5) (en := en_5) (dn := dn) (rf := rf) (kk := kk) (th := th) ⟨h19_12, h20_12, h21_12, h22_12, hb_12, hbl_12, hb3_12⟩ hn1 hn2 gm gr7 gx8 e c4 (by first | assumption | omega) (by first | assumption | omega) (by first | assumption | omega) (by first | assumption | omega) (kc := 13) (ks := 2054) (Nat.le_refl _) (Nat.le_refl _)) (by omega) (by omega) (by omega) (st := []) (Nat.le_of_ble_eq_true rfl) rfl (kr_I fun v21 w21 hv21 hw21 => ?_) kx_I
            obtain ⟨rw21, nx21, b21, bt21, kn21, en21, hR21, hFc21, hgrw21, hgnx21, hp21_0, hp21_1⟩ := hw21
            obtain ⟨h19_21, h20_21, h21_21, h22_21, hbb_21, hbl_21, hb3_21⟩ := hR21
            have qd21 := hFc21.2.1
            have hF21 := hF6.tr hFc21
            obtain ⟨k21, rfl, hk21⟩ := hv21
            refine J_if_eqN (pc := 33) (tgt := 40) dX8_isPartNow_33 (by decide) (by omega) (fun ht22 => ?_) (fun hf23 => ?_)
            · refine J_iconst (pc := 40) (v := nI 0) dX8_isPartNow_40 (by decide) ?_
              refine J_istore_n (pc := 41) dX8_isPartNow_41 rfl (by decide) rfl ?_
              show J X mX8_isPartNow d (kc2 - 13) (ks3 - 2054) 42 [some (.ref 19), some (.int (nI s)), some (.int (nI e)), some (.int (nI 0)), some (.int (nI c4))] [] w21 _
              refine J_iincN (pc := 42) (b := 1) dX8_isPartNow_42 rfl (by decide) (by decide) rfl ?_
              show J X mX8_isPartNow d (kc2 - 13) (ks3 - 2054) 45 [some (.ref 19), some (.int (nI s)), some (.int (nI e)), some (.int (nI 0)), some (.int (nI (c4 + 1)))] [] w21 _
              refine J_goto (pc := 45) (tgt := 5) dX8_isPartNow_45 (by decide) ?_
              exact J_sub (L' := [some (.ref 19), some (.int (nI s)), some (.int (nI e)), some (.int (nI 0)), some (.int (nI (c4 + 1)))]) ⟨rfl, ⟨rfl, ⟨rfl, ⟨rfl, ⟨rfl, trivial⟩⟩⟩⟩⟩ (ihlp5_1 _ _ w21 rw21 nx21 b21 bt21 kn21 en21 0 (c4 + 1) ⟨h19_21, h20_21, h21_21, h22_21, hbb_21, hbl_21, hb3_21⟩ hF21 hgrw21 hgnx21 (by omega) (by omega) (by first | assumption | omega) (by first | assumption | exact Or.inr (by assumption)) (by first | assumption | omega) (by omega))
            · refine J_iconst (pc := 36) (v := nI 1) dX8_isPartNow_36 (by decide) ?_
              refine J_goto (pc := 37) (tgt := 41) dX8_isPartNow_37 (by decide) ?_
              refine J_istore_n (pc := 41) dX8_isPartNow_41 rfl (by decide) rfl ?_
              show J X mX8_isPartNow d (kc2 - 13) (ks3 - 2054) 42 [some (.ref 19), some (.int (nI s)), some (.int (nI e)), some (.int (nI 1)), some (.int (nI c4))] [] w21 _
              refine J_iincN (pc := 42) (b := 1) dX8_isPartNow_42 rfl (by decide) (by decide) rfl ?_
              show J X mX8_isPartNow d (kc2 - 13) (ks3 - 2054) 45 [some (.ref 19), some (.int (nI s)), some (.int (nI e)), some (.int (nI 1)), some (.int (nI (c4 + 1)))] [] w21 _
              refine J_goto (pc := 45) (tgt := 5) dX8_isPartNow_45 (by decide) ?_
              exact J_sub (L' := [some (.ref 19), some (.int (nI s)), some (.int (nI e)), some (.int (nI 1)), some (.int (nI (c4 + 1)))]) ⟨rfl, ⟨rfl, ⟨rfl, ⟨rfl, ⟨rfl, trivial⟩⟩⟩⟩⟩ (ihlp5_1 _ _ w21 rw21 nx21 b21 bt21 kn21 en21 1 (c4 + 1) ⟨h19_21, h20_21, h21_21, h22_21, hbb_21, hbl_21, hb3_21⟩ hF21 hgrw21 hgnx21 (by omega) (by omega) (by first | assumption | omega) (by first | assumption | exact Or.inr (by assumption)) (by first | assumption | omega) (by omega))
  exact J_sub (L' := [some (.ref 19), some (.int (nI s)), some (.int (nI e)), some (.int (nI 1)), some (.int (nI 0))]) ⟨rfl, ⟨rfl, ⟨rfl, ⟨rfl, ⟨rfl, trivial⟩⟩⟩⟩⟩ (lp5_1 _ _ _ w rw nx b bt kn en 1 0 ⟨h19, h20, h21, h22, hbb, hbl, hb3⟩ hF gr gx (by omega) (by omega) (by first | assumption | omega) (by assumption) (by first | assumption | omega) (Nat.lt_succ_self _))
