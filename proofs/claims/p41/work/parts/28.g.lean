section
/-! where points come to, parts: the reference, exactly -/
/-- the labels that were seen -/
def LBs (rw : Nat → Nat) (z c : Nat) : Prop := z < 2 ^ 7 ∧ ∀ v, z.testBit v = true ↔ ∃ p, p < c ∧ rw p = v
theorem LBs_0 {rw : Nat → Nat} : LBs rw 0 0 := ⟨by decide, fun v => by
  rw [Nat.zero_testBit]
  exact ⟨fun h => absurd h (by decide), fun ⟨p, hp, _⟩ => absurd hp (Nat.not_lt_zero p)⟩⟩
theorem LBs_s {rw : Nat → Nat} {z c : Nat} (h : LBs rw z c) (h7 : rw c < 7) : LBs rw (z ||| 2 ^ rw c) (c + 1) := ⟨Nat.or_lt_two_pow h.1 (Nat.pow_lt_pow_right (by decide) h7), fun v => by
  rw [set_bit, Bool.or_eq_true, h.2 v, decide_eq_true_eq]
  constructor
  · rintro (⟨p, hp, e⟩ | e)
    · exact ⟨p, by omega, e⟩
    · exact ⟨c, Nat.lt_succ_self c, e⟩
  · rintro ⟨p, hp, e⟩
    by_cases q : p = c
    · rw [q] at e; exact Or.inr e
    · exact Or.inl ⟨p, by omega, e⟩⟩
theorem blk_ct {n : Nat} {rw : Nat → Nat} {B : Nat → Nat → Prop} {z c : Nat} (h1 : 1 ≤ n) (hn : n ≤ 7) (hl : RLb n rw) (hr : ∀ p q, p < n → q < n → (rw p = rw q ↔ B p q)) (hz : LBs rw z c) (hc : c = n) : pc32 (nI z) = ct (fun p => ∀ q, q < p → ¬ B p q) n := by
  subst hc
  rw [pc32_nI (Nat.lt_trans hz.1 (by decide))]
  have hb : ∀ v, z.testBit v = true ↔ (v < c ∧ rw v = v) := fun v => (hz.2 v).trans ⟨fun ⟨p, hp, e⟩ => by rw [← e]; exact hl p hp, fun ⟨hv, e⟩ => ⟨v, hv, e⟩⟩
  have e1 : cnt (fun v => z.testBit v) 32 = cnt (fun v => z.testBit v) c := by
    have := cnt_ext (n := c) (P := fun v => z.testBit v) (fun i hi => bt_f (fun g => by have := ((hb i).mp g).1; omega)) (32 - c)
    rw [show c + (32 - c) = 32 by omega] at this
    exact this
  have e2 : ct (fun p => rw p = p) c = cnt (fun v => z.testBit v) c := ct_cnt c (fun p hp => ⟨fun e => (hb p).mpr ⟨hp, e⟩, fun e => ((hb p).mp e).2⟩)
  rw [e1, ← e2, rep_ct (E := fun p q => rw p = rw q) (F := fun p => rw p = p) (G := fun p => ∀ q, q < p → ¬ rw p = rw q) (fun p q e => e.symm) (fun p hp => ⟨rw p, (hl p hp).1, (hl p hp).2, (hl p hp).2.symm, fun w _ e1 e2 => (e2.trans e1).symm⟩) (fun p hp => by
    obtain ⟨m, m1, m2, m3⟩ := lst_ex (rw := rw) p p (Nat.le_refl p)
    refine ⟨m, by omega, m3, m2, fun w _ w1 w2 => ?_⟩
    by_cases q : w = m
    · exact q
    · by_cases q2 : w < m
      · exact absurd (m2.symm.trans w2) (m3 w q2)
      · exact absurd (w2.symm.trans m2) (w1 m (by omega)))]
  exact ct_iff (fun p hp => ⟨fun h q hq e => h q hq ((hr p q hp (by omega)).mpr e), fun h q hq e => h q hq ((hr p q hp (by omega)).mp e)⟩)
set_option maxRecDepth 100000 in
set_option maxHeartbeats 40000000 in
theorem c_X8_part_atx {X : jX} (hs : X.1.stackTraces = false) {d : Nat} (hd : 1 ≤ d) {n : Nat} {mv rw nx : Nat → Nat} {b : Nat} {bt : List Int32} {kn en dn rf kk th : Int32} {w : List jC} (hR : RM n mv rw nx b bt kn en dn rf kk th w) (hn1 : 2 ≤ n) (hn2 : n ≤ 7) (gm : ∀ i, mv i < 7) (gr : ∀ i, rw i < 7) (gx : ∀ i, nx i < 7) (s : Nat) (a : Nat) (c : Nat) (hy0 : s < 64) (hy1 : a < n) (hy2 : c < n) (hy3 : PM n mv) {kc ks : Nat} : jMet X mX8_part d kc ks [.ref 19, .int (nI s), .int (nI a), .int (nI c)] w (pV (fun w' => ∃ (rw' : Nat → Nat), RM n mv rw' nx b bt kn en dn rf kk th w' ∧ FR b b w w' ∧ (∀ i, rw' i < 7) ∧ RLb n rw' ∧ (∀ p q, p < n → q < n → (rw' p = rw' q ↔ Bcr n mv s a c p q)))) := by
  refine jMet_of hs (by decide +kernel) (Nat.le_of_ble_eq_true rfl) (L := [some (.ref 19), some (.int (nI s)), some (.int (nI a)), some (.int (nI c)), none, none, none, none]) rfl ?_
  have hdm : 0 ≤ d - 1 := by omega
  have hdp : d - 1 + 1 ≤ d := by omega
  have hfc := fc_7 hn2
  have hfp := fc_pos n
  obtain ⟨h19, h20, h21, h22, hbb, hbl, hb3⟩ := hR
  have hF : FR b b w w := FR.rf
  refine J_iconst (pc := 0) (v := nI 0) dX8_part_0 (by decide) ?_
  refine J_istore (pc := 1) dX8_part_1 (by decide) rfl ?_
  show J X mX8_part d kc ks 3 [some (.ref 19), some (.int (nI s)), some (.int (nI a)), some (.int (nI c)), some (.int (nI 0)), none, none, none] [] w _
  have lp3_1 : ∀ (fuel : Nat) (w2 : List jC) (rw_3 : Nat → Nat) (c4 : Nat), (RM n mv rw_3 nx b bt kn en dn rf kk th w2) → (FR b b w w2) → (∀ i, rw_3 i < 7) → (∀ p, p < c4 → rw_3 p = p) → (c4 ≤ n) → (n - c4 < fuel) → J X mX8_part d kc ks 3 [some (.ref 19), some (.int (nI s)), some (.int (nI a)), some (.int (nI c)), some (.int (nI c4)), none, none, none] [] w2 (pV (fun w' => ∃ (rw' : Nat → Nat), RM n mv rw' nx b bt kn en dn rf kk th w' ∧ FR b b w w' ∧ (∀ i, rw' i < 7) ∧ RLb n rw' ∧ (∀ p q, p < n → q < n → (rw' p = rw' q ↔ Bcr n mv s a c p q)))) := by
    intro fuellp3_1
    induction fuellp3_1 with
    | zero => intros; omega
    | succ fuellp3_1 ihlp3_1 =>
      intro w2 rw_3 c4 hR3 hF4 gr5 hv3_0 hv3_1 hf6
      obtain ⟨h19_7, h20_7, h21_7, h22_7, hb_7, hbl_7, hb3_7⟩ := hR3
      refine J_iload (pc := 3) dX8_part_3 rfl ?_
      refine J_aload_n (pc := 5) dX8_part_5 rfl rfl rfl ?_
      refine J_get (pc := 6) (k := 0) dX8_part_6 kC9 (by decide) ff_X8_7 h19_7 rfl ?_
      refine J_icmp_geN (pc := 9) (tgt := 27) dX8_part_9 (by decide) (by omega) (by omega) (fun ht8 => ?_) (fun hf9 => ?_)
      · refine J_aload_n (pc := 27) dX8_part_27 rfl rfl rfl ?_
        refine J_iload_n (pc := 28) dX8_part_28 rfl rfl ?_
        refine J_iload_n (pc := 29) dX8_part_29 rfl rfl ?_
        refine J_callV0 (pc := 30) (M := mX8_part) (as := [.int (nI a), .int (nI c)]) dX8_part_30 fw_X8_join fl_X8_217 fm_X8_join fe_X8_join h19_7 (by decide) rfl rfl rfl (c_X8_join hs (d := d - 1) (Nat.le_trans (by decide) hdm) (w := w2) (n := n) (mv := mv) (rw := rw_3) (nx := nx) (b := b) (bt := bt) (kn := kn) (en := en) (dn := dn) (rf := rf) (kk := kk) (th := th) ⟨h19_7, h20_7, h21_7, h22_7, hb_7, hbl_7, hb3_7⟩ hn1 hn2 gm gr5 gx a c (by first | assumption | omega) (by first | assumption | omega) (kc := 0) (ks := 0)) hdp (st := []) (Nat.le_of_ble_eq_true rfl) rfl (kr_V fun w10 hw10 => ?_) kx_V
        obtain ⟨rw10, hR10, hFc10, hgrw10, hp10_0⟩ := hw10
        obtain ⟨h19_10, h20_10, h21_10, h22_10, hbb_10, hbl_10, hb3_10⟩ := hR10
        have hF10 := hF4.tr hFc10
        have hj0 := hp10_0
        have hid : ∀ p, p < n → rw_3 p = p := fun p hp => hv3_0 p (by omega)
        have jl1 := jn_lb (RLb_0 hid) hy1 hj0
        have jl2 := jn_u (mv := mv) (s := s) (a := a) (b := c) (RU_0 hid) hy1 hy2 hj0 (fun R _ h2 _ => h2)
        have jl3 := jn_ab hy1 hy2 hj0
        refine J_iconst (pc := 33) (v := nI 1) dX8_part_33 (by decide) ?_
        refine J_istore (pc := 34) dX8_part_34 (by decide) rfl ?_
        show J X mX8_part d kc ks 36 [some (.ref 19), some (.int (nI s)), some (.int (nI a)), some (.int (nI c)), some (.int (nI 1)), none, none, none] [] w10 _
        have lp36_11 : ∀ (fuel : Nat) (w12 : List jC) (rw_36 : Nat → Nat) (u4 : Nat), (RM n mv rw_36 nx b bt kn en dn rf kk th w12) → (FR b b w w12) → (∀ i, rw_36 i < 7) → (u4 < 2) → (RLb n rw_36) → (RU n mv s a c rw_36) → (rw_36 a = rw_36 c) → (u4 = 0 → RKs n mv s rw_36 6) → (2 * Dn n rw_36 + u4 < fuel) → J X mX8_part d kc ks 36 [some (.ref 19), some (.int (nI s)), some (.int (nI a)), some (.int (nI c)), some (.int (nI u4)), none, none, none] [] w12 (pV (fun w' => ∃ (rw' : Nat → Nat), RM n mv rw' nx b bt kn en dn rf kk th w' ∧ FR b b w w' ∧ (∀ i, rw' i < 7) ∧ RLb n rw' ∧ (∀ p q, p < n → q < n → (rw' p = rw' q ↔ Bcr n mv s a c p q)))) := by
          intro fuellp36_11
          induction fuellp36_11 with
          | zero => intros; omega
          | succ fuellp36_11 ihlp36_11 =>
            intro w12 rw_36 u4 hR13 hF14 gr15 hv36_0 hv36_1 hv36_2 hv36_3 hv36_4 hf16
            obtain ⟨h19_17, h20_17, h21_17, h22_17, hb_17, hbl_17, hb3_17⟩ := hR13
            refine J_iload (pc := 36) dX8_part_36 rfl ?_
            refine J_if_eqN (pc := 38) (tgt := 178) dX8_part_38 (by decide) (by omega) (fun ht18 => ?_) (fun hf19 => ?_)
            · exact J_vret (pc := 178) dX8_part_178 rfl (⟨rw_36, ⟨h19_17, h20_17, h21_17, h22_17, hb_17, hbl_17, hb3_17⟩, hF14, gr15, (by exact hv36_1), (by exact fun p q hp hq => RT_is hy3 hy1 hy2 hv36_2 hv36_3 (hv36_4 (by omega)) hp hq)⟩)
            · refine J_iconst (pc := 41) (v := nI 0) dX8_part_41 (by decide) ?_
              refine J_istore (pc := 42) dX8_part_42 (by decide) rfl ?_
              show J X mX8_part d kc ks 44 [some (.ref 19), some (.int (nI s)), some (.int (nI a)), some (.int (nI c)), some (.int (nI 0)), none, none, none] [] w12 _
              refine J_iconst (pc := 44) (v := nI 0) dX8_part_44 (by decide) ?_
              refine J_istore (pc := 45) dX8_part_45 (by decide) rfl ?_
              show J X mX8_part d kc ks 47 [some (.ref 19), some (.int (nI s)), some (.int (nI a)), some (.int (nI c)), some (.int (nI 0)), some (.int (nI 0)), none, none] [] w12 _
              have lp47_20 : ∀ (fuel : Nat) (w21 : List jC) (rw_47 : Nat → Nat) (v4 : Nat) (c5 : Nat), (RM n mv rw_47 nx b bt kn en dn rf kk th w21) → (FR b b w w21) → (∀ i, rw_47 i < 7) → (v4 < 2) → (Dn n rw_47 ≤ Dn n rw_36) → (v4 = 1 → Dn n rw_47 < Dn n rw_36) → (RLb n rw_47) → (RU n mv s a c rw_47) → (rw_47 a = rw_47 c) → (v4 = 0 → RKs n mv s rw_47 c5) → (c5 ≤ 6) → (6 - c5 < fuel) → J X mX8_part d kc ks 47 [some (.ref 19), some (.int (nI s)), some (.int (nI a)), some (.int (nI c)), some (.int (nI v4)), some (.int (nI c5)), none, none] [] w21 (pV (fun w' => ∃ (rw' : Nat → Nat), RM n mv rw' nx b bt kn en dn rf kk th w' ∧ FR b b w w' ∧ (∀ i, rw' i < 7) ∧ RLb n rw' ∧ (∀ p q, p < n → q < n → (rw' p = rw' q ↔ Bcr n mv s a c p q)))) := by
                intro fuellp47_20
                induction fuellp47_20 with
                | zero => intros; omega
                | succ fuellp47_20 ihlp47_20 =>
                  intro w21 rw_47 v4 c5 hR22 hF23 gr24 hv47_0 hv47_1 hv47_2 hv47_3 hv47_4 hv47_5 hv47_6 hv47_7 hf25
                  obtain ⟨h19_26, h20_26, h21_26, h22_26, hb_26, hbl_26, hb3_26⟩ := hR22
                  refine J_iload (pc := 47) dX8_part_47 rfl ?_
                  refine J_bipush (pc := 49) (v := nI 6) dX8_part_49 (by decide) ?_
                  refine J_icmp_geN (pc := 51) (tgt := 175) dX8_part_51 (by decide) (by omega) (by omega) (fun ht27 => ?_) (fun hf28 => ?_)
                  · refine J_goto (pc := 175) (tgt := 36) dX8_part_175 (by decide) ?_
                    exact J_sub (L' := [some (.ref 19), some (.int (nI s)), some (.int (nI a)), some (.int (nI c)), some (.int (nI v4)), none, none, none]) ⟨rfl, ⟨rfl, ⟨rfl, ⟨rfl, ⟨rfl, trivial⟩⟩⟩⟩⟩ (ihlp36_11 w21 rw_47 v4 ⟨h19_26, h20_26, h21_26, h22_26, hb_26, hbl_26, hb3_26⟩ hF23 gr24 (by first | assumption | omega) (by exact hv47_3) (by exact hv47_4) (by exact hv47_5) (by exact fun h => by have q := hv47_6 h; rw [show c5 = 6 by omega] at q; exact q) (by omega))
                  · refine J_iload_n (pc := 54) dX8_part_54 rfl rfl ?_
                    refine J_iload (pc := 55) dX8_part_55 rfl ?_
                    refine J_ishrN (pc := 57) dX8_part_57 (by omega) (by omega) ?_
                    refine J_iconst (pc := 58) (v := nI 1) dX8_part_58 (by decide) ?_
                    have hm29 := Nat.mod_lt (s / 2 ^ c5) (show 0 < 2 ^ 1 by decide)
                    have hm30 := Nat.div_le_self s (2 ^ c5)
                    refine J_iandN (pc := 59) 1 dX8_part_59 (by omega) (by decide) ?_
                    refine J_if_neN (pc := 60) (tgt := 66) dX8_part_60 (by decide) (by omega) (fun ht31 => ?_) (fun hf32 => ?_)
                    · refine J_iconst (pc := 66) (v := nI 0) dX8_part_66 (by decide) ?_
                      refine J_istore (pc := 67) dX8_part_67 (by decide) rfl ?_
                      show J X mX8_part d kc ks 69 [some (.ref 19), some (.int (nI s)), some (.int (nI a)), some (.int (nI c)), some (.int (nI v4)), some (.int (nI c5)), some (.int (nI 0)), none] [] w21 _
                      have lp69_33 : ∀ (fuel : Nat) (w34 : List jC) (rw_69 : Nat → Nat) (s4 : Nat) (c6 : Nat), (RM n mv rw_69 nx b bt kn en dn rf kk th w34) → (FR b b w w34) → (∀ i, rw_69 i < 7) → (s4 < 2) → (Dn n rw_69 ≤ Dn n rw_36) → (s4 = 1 → Dn n rw_69 < Dn n rw_36) → (RLb n rw_69) → (RU n mv s a c rw_69) → (rw_69 a = rw_69 c) → (s4 = 0 → RKs n mv s rw_69 c5 ∧ RK2 n mv rw_69 c5 c6 0) → (c6 ≤ n) → (n - c6 < fuel) → J X mX8_part d kc ks 69 [some (.ref 19), some (.int (nI s)), some (.int (nI a)), some (.int (nI c)), some (.int (nI s4)), some (.int (nI c5)), some (.int (nI c6)), none] [] w34 (pV (fun w' => ∃ (rw' : Nat → Nat), RM n mv rw' nx b bt kn en dn rf kk th w' ∧ FR b b w w' ∧ (∀ i, rw' i < 7) ∧ RLb n rw' ∧ (∀ p q, p < n → q < n → (rw' p = rw' q ↔ Bcr n mv s a c p q)))) := by
                        intro fuellp69_33
                        induction fuellp69_33 with
                        | zero => intros; omega
                        | succ fuellp69_33 ihlp69_33 =>
                          intro w34 rw_69 s4 c6 hR35 hF36 gr37 hv69_0 hv69_1 hv69_2 hv69_3 hv69_4 hv69_5 hv69_6 hv69_7 hf38
                          obtain ⟨h19_39, h20_39, h21_39, h22_39, hb_39, hbl_39, hb3_39⟩ := hR35
                          refine J_iload (pc := 69) dX8_part_69 rfl ?_
                          refine J_aload_n (pc := 71) dX8_part_71 rfl rfl rfl ?_
                          refine J_get (pc := 72) (k := 0) dX8_part_72 kC9 (by decide) ff_X8_7 h19_39 rfl ?_
                          refine J_icmp_geN (pc := 75) (tgt := 169) dX8_part_75 (by decide) (by omega) (by omega) (fun ht40 => ?_) (fun hf41 => ?_)
                          · refine J_iincN (pc := 169) (b := 1) dX8_part_169 rfl (by decide) (by decide) rfl ?_
                            show J X mX8_part d kc ks 172 [some (.ref 19), some (.int (nI s)), some (.int (nI a)), some (.int (nI c)), some (.int (nI s4)), some (.int (nI (c5 + 1))), some (.int (nI c6)), none] [] w34 _
                            refine J_goto (pc := 172) (tgt := 47) dX8_part_172 (by decide) ?_
                            exact J_sub (L' := [some (.ref 19), some (.int (nI s)), some (.int (nI a)), some (.int (nI c)), some (.int (nI s4)), some (.int (nI (c5 + 1))), none, none]) ⟨rfl, ⟨rfl, ⟨rfl, ⟨rfl, ⟨rfl, ⟨rfl, trivial⟩⟩⟩⟩⟩⟩ (ihlp47_20 w34 rw_69 s4 (c5 + 1) ⟨h19_39, h20_39, h21_39, h22_39, hb_39, hbl_39, hb3_39⟩ hF36 gr37 (by first | assumption | omega) (by first | assumption | omega) (by first | assumption | omega) (by first | exact hv69_3 | exact hv47_3) (by first | exact hv69_4 | exact hv47_4) (by first | exact hv69_5 | exact hv47_5) (by first | exact fun h => RKs_s (hv69_6 h).1 (hv69_6 h).2 (by omega) | exact fun h => RKs_n (hv47_6 h) (tb_0 (by omega))) (by first | assumption | omega) (by omega))
                          · refine J_iconst (pc := 78) (v := nI 0) dX8_part_78 (by decide) ?_
                            refine J_istore (pc := 79) dX8_part_79 (by decide) rfl ?_
                            show J X mX8_part d kc ks 81 [some (.ref 19), some (.int (nI s)), some (.int (nI a)), some (.int (nI c)), some (.int (nI s4)), some (.int (nI c5)), some (.int (nI c6)), some (.int (nI 0))] [] w34 _
                            have lp81_42 : ∀ (fuel : Nat) (w43 : List jC) (rw_81 : Nat → Nat) (t4 : Nat) (c7 : Nat), (RM n mv rw_81 nx b bt kn en dn rf kk th w43) → (FR b b w w43) → (∀ i, rw_81 i < 7) → (t4 < 2) → (Dn n rw_81 ≤ Dn n rw_36) → (t4 = 1 → Dn n rw_81 < Dn n rw_36) → (RLb n rw_81) → (RU n mv s a c rw_81) → (rw_81 a = rw_81 c) → (t4 = 0 → RKs n mv s rw_81 c5 ∧ RK2 n mv rw_81 c5 c6 c7) → (c7 ≤ c6) → (c6 - c7 < fuel) → J X mX8_part d kc ks 81 [some (.ref 19), some (.int (nI s)), some (.int (nI a)), some (.int (nI c)), some (.int (nI t4)), some (.int (nI c5)), some (.int (nI c6)), some (.int (nI c7))] [] w43 (pV (fun w' => ∃ (rw' : Nat → Nat), RM n mv rw' nx b bt kn en dn rf kk th w' ∧ FR b b w w' ∧ (∀ i, rw' i < 7) ∧ RLb n rw' ∧ (∀ p q, p < n → q < n → (rw' p = rw' q ↔ Bcr n mv s a c p q)))) := by
                              intro fuellp81_42
                              induction fuellp81_42 with
                              | zero => intros; omega
                              | succ fuellp81_42 ihlp81_42 =>
                                intro w43 rw_81 t4 c7 hR44 hF45 gr46 hv81_0 hv81_1 hv81_2 hv81_3 hv81_4 hv81_5 hv81_6 hv81_7 hf47
                                obtain ⟨h19_48, h20_48, h21_48, h22_48, hb_48, hbl_48, hb3_48⟩ := hR44
                                refine J_iload (pc := 81) dX8_part_81 rfl ?_
                                refine J_iload (pc := 83) dX8_part_83 rfl ?_
                                refine J_icmp_geN (pc := 85) (tgt := 163) dX8_part_85 (by decide) (by omega) (by omega) (fun ht49 => ?_) (fun hf50 => ?_)
                                · refine J_iincN (pc := 163) (b := 1) dX8_part_163 rfl (by decide) (by decide) rfl ?_
                                  show J X mX8_part d kc ks 166 [some (.ref 19), some (.int (nI s)), some (.int (nI a)), some (.int (nI c)), some (.int (nI t4)), some (.int (nI c5)), some (.int (nI (c6 + 1))), some (.int (nI c7))] [] w43 _
                                  refine J_goto (pc := 166) (tgt := 69) dX8_part_166 (by decide) ?_
                                  exact J_sub (L' := [some (.ref 19), some (.int (nI s)), some (.int (nI a)), some (.int (nI c)), some (.int (nI t4)), some (.int (nI c5)), some (.int (nI (c6 + 1))), none]) ⟨rfl, ⟨rfl, ⟨rfl, ⟨rfl, ⟨rfl, ⟨rfl, ⟨rfl, trivial⟩⟩⟩⟩⟩⟩⟩ (ihlp69_33 w43 rw_81 t4 (c6 + 1) ⟨h19_48, h20_48, h21_48, h22_48, hb_48, hbl_48, hb3_48⟩ hF45 gr46 (by first | assumption | omega) (by first | assumption | omega) (by first | assumption | omega) (by exact hv81_3) (by exact hv81_4) (by exact hv81_5) (by exact fun h => ⟨(hv81_6 h).1, RK2_o (hv81_6 h).2 (by omega)⟩) (by first | assumption | omega) (by omega))
                                · refine J_aload_n (pc := 88) dX8_part_88 rfl rfl rfl ?_
                                  refine J_get (pc := 89) (k := 2) dX8_part_89 kC9 (by decide) ff_X8_17 h19_48 rfl ?_
                                  refine J_iload (pc := 92) dX8_part_92 rfl ?_
                                  refine J_ialdF (pc := 94) dX8_part_94 h21_48 (by omega) (by decide) ?_
                                  have hq51 := gr46 c6
                                  refine J_aload_n (pc := 95) dX8_part_95 rfl rfl rfl ?_
                                  refine J_get (pc := 96) (k := 2) dX8_part_96 kC9 (by decide) ff_X8_17 h19_48 rfl ?_
                                  refine J_iload (pc := 99) dX8_part_99 rfl ?_
                                  refine J_ialdF (pc := 101) dX8_part_101 h21_48 (by omega) (by decide) ?_
                                  have hq52 := gr46 c7
                                  refine J_icmp_neN (pc := 102) (tgt := 157) dX8_part_102 (by decide) (by omega) (by omega) (fun ht53 => ?_) (fun hf54 => ?_)
                                  · refine J_iincN (pc := 157) (b := 1) dX8_part_157 rfl (by decide) (by decide) rfl ?_
                                    show J X mX8_part d kc ks 160 [some (.ref 19), some (.int (nI s)), some (.int (nI a)), some (.int (nI c)), some (.int (nI t4)), some (.int (nI c5)), some (.int (nI c6)), some (.int (nI (c7 + 1)))] [] w43 _
                                    refine J_goto (pc := 160) (tgt := 81) dX8_part_160 (by decide) ?_
                                    exact J_sub (L' := [some (.ref 19), some (.int (nI s)), some (.int (nI a)), some (.int (nI c)), some (.int (nI t4)), some (.int (nI c5)), some (.int (nI c6)), some (.int (nI (c7 + 1)))]) ⟨rfl, ⟨rfl, ⟨rfl, ⟨rfl, ⟨rfl, ⟨rfl, ⟨rfl, ⟨rfl, trivial⟩⟩⟩⟩⟩⟩⟩⟩ (ihlp81_42 w43 rw_81 t4 (c7 + 1) ⟨h19_48, h20_48, h21_48, h22_48, hb_48, hbl_48, hb3_48⟩ hF45 gr46 (by first | assumption | omega) (by first | assumption | omega) (by first | assumption | omega) (by first | exact jl1 | exact hv81_3) (by first | exact jl2 | exact hv81_4) (by first | exact jl3 | exact hv81_5) (by first | (intro h; omega) | exact fun h => ⟨(hv81_6 h).1, RK2_s (hv81_6 h).2 (fun _ => by assumption)⟩ | exact fun h => ⟨(hv81_6 h).1, RK2_s (hv81_6 h).2 (fun e => absurd e (by assumption))⟩) (by first | assumption | omega) (by omega))
                                  · refine J_aload_n (pc := 105) dX8_part_105 rfl rfl rfl ?_
                                    refine J_get (pc := 106) (k := 2) dX8_part_106 kC9 (by decide) ff_X8_17 h19_48 rfl ?_
                                    refine J_aload_n (pc := 109) dX8_part_109 rfl rfl rfl ?_
                                    refine J_iload (pc := 110) dX8_part_110 rfl ?_
                                    refine J_iload (pc := 112) dX8_part_112 rfl ?_
                                    refine J_callV0 (pc := 114) (M := mX8_part) (as := [.int (nI c5), .int (nI c6)]) dX8_part_114 fw_X8_at fl_X8_82 fm_X8_at fe_X8_at h19_48 (by decide) rfl rfl rfl (c_X8_at hs (d := d - 1) (Nat.le_trans (by decide) hdm) (w := w43) (n := n) (mv := mv) (rw := rw_81) (nx := nx) (b := b) (bt := bt) (kn := kn) (en := en) (dn := dn) (rf := rf) (kk := kk) (th := th) ⟨h19_48, h20_48, h21_48, h22_48, hb_48, hbl_48, hb3_48⟩ hn1 hn2 gm gr46 gx c5 c6 (by first | assumption | omega) (by first | assumption | omega) (kc := 0) (ks := 0)) hdp (st := [.ref 21]) (Nat.le_of_ble_eq_true rfl) rfl (kr_P fun v55 hv55 => ?_) kx_I
                                    subst hv55
                                    have hq56 := gm (c5 * 7 + c6)
                                    refine J_ialdF (pc := 117) dX8_part_117 h21_48 (by omega) (by decide) ?_
                                    have hq57 := gr46 (mv (c5 * 7 + c6))
                                    refine J_aload_n (pc := 118) dX8_part_118 rfl rfl rfl ?_
                                    refine J_get (pc := 119) (k := 2) dX8_part_119 kC9 (by decide) ff_X8_17 h19_48 rfl ?_
                                    refine J_aload_n (pc := 122) dX8_part_122 rfl rfl rfl ?_
                                    refine J_iload (pc := 123) dX8_part_123 rfl ?_
                                    refine J_iload (pc := 125) dX8_part_125 rfl ?_
                                    refine J_callV0 (pc := 127) (M := mX8_part) (as := [.int (nI c5), .int (nI c7)]) dX8_part_127 fw_X8_at fl_X8_82 fm_X8_at fe_X8_at h19_48 (by decide) rfl rfl rfl (c_X8_at hs (d := d - 1) (Nat.le_trans (by decide) hdm) (w := w43) (n := n) (mv := mv) (rw := rw_81) (nx := nx) (b := b) (bt := bt) (kn := kn) (en := en) (dn := dn) (rf := rf) (kk := kk) (th := th) ⟨h19_48, h20_48, h21_48, h22_48, hb_48, hbl_48, hb3_48⟩ hn1 hn2 gm gr46 gx c5 c7 (by first | assumption | omega) (by first | assumption | omega) (kc := 0) (ks := 0)) hdp (st := [.ref 21, .int (nI (rw_81 (mv (c5 * 7 + c6))))]) (Nat.le_of_ble_eq_true rfl) rfl (kr_P fun v58 hv58 => ?_) kx_I
                                    subst hv58
                                    have hq59 := gm (c5 * 7 + c7)
                                    refine J_ialdF (pc := 130) dX8_part_130 h21_48 (by omega) (by decide) ?_
                                    have hq60 := gr46 (mv (c5 * 7 + c7))
                                    refine J_icmp_eqN (pc := 131) (tgt := 157) dX8_part_131 (by decide) (by omega) (by omega) (fun ht61 => ?_) (fun hf62 => ?_)
                                    · refine J_iincN (pc := 157) (b := 1) dX8_part_157 rfl (by decide) (by decide) rfl ?_
                                      show J X mX8_part d kc ks 160 [some (.ref 19), some (.int (nI s)), some (.int (nI a)), some (.int (nI c)), some (.int (nI t4)), some (.int (nI c5)), some (.int (nI c6)), some (.int (nI (c7 + 1)))] [] w43 _
                                      refine J_goto (pc := 160) (tgt := 81) dX8_part_160 (by decide) ?_
                                      exact J_sub (L' := [some (.ref 19), some (.int (nI s)), some (.int (nI a)), some (.int (nI c)), some (.int (nI t4)), some (.int (nI c5)), some (.int (nI c6)), some (.int (nI (c7 + 1)))]) ⟨rfl, ⟨rfl, ⟨rfl, ⟨rfl, ⟨rfl, ⟨rfl, ⟨rfl, ⟨rfl, trivial⟩⟩⟩⟩⟩⟩⟩⟩ (ihlp81_42 w43 rw_81 t4 (c7 + 1) ⟨h19_48, h20_48, h21_48, h22_48, hb_48, hbl_48, hb3_48⟩ hF45 gr46 (by first | assumption | omega) (by first | assumption | omega) (by first | assumption | omega) (by first | exact jl1 | exact hv81_3) (by first | exact jl2 | exact hv81_4) (by first | exact jl3 | exact hv81_5) (by first | (intro h; omega) | exact fun h => ⟨(hv81_6 h).1, RK2_s (hv81_6 h).2 (fun _ => by assumption)⟩ | exact fun h => ⟨(hv81_6 h).1, RK2_s (hv81_6 h).2 (fun e => absurd e (by assumption))⟩) (by first | assumption | omega) (by omega))
                                    · refine J_aload_n (pc := 134) dX8_part_134 rfl rfl rfl ?_
                                      refine J_aload_n (pc := 135) dX8_part_135 rfl rfl rfl ?_
                                      refine J_iload (pc := 136) dX8_part_136 rfl ?_
                                      refine J_iload (pc := 138) dX8_part_138 rfl ?_
                                      refine J_callV0 (pc := 140) (M := mX8_part) (as := [.int (nI c5), .int (nI c6)]) dX8_part_140 fw_X8_at fl_X8_82 fm_X8_at fe_X8_at h19_48 (by decide) rfl rfl rfl (c_X8_at hs (d := d - 1) (Nat.le_trans (by decide) hdm) (w := w43) (n := n) (mv := mv) (rw := rw_81) (nx := nx) (b := b) (bt := bt) (kn := kn) (en := en) (dn := dn) (rf := rf) (kk := kk) (th := th) ⟨h19_48, h20_48, h21_48, h22_48, hb_48, hbl_48, hb3_48⟩ hn1 hn2 gm gr46 gx c5 c6 (by first | assumption | omega) (by first | assumption | omega) (kc := 0) (ks := 0)) hdp (st := [.ref 19]) (Nat.le_of_ble_eq_true rfl) rfl (kr_P fun v63 hv63 => ?_) kx_I
                                      subst hv63
                                      have hq64 := gm (c5 * 7 + c6)
                                      refine J_aload_n (pc := 143) dX8_part_143 rfl rfl rfl ?_
                                      refine J_iload (pc := 144) dX8_part_144 rfl ?_
                                      refine J_iload (pc := 146) dX8_part_146 rfl ?_
                                      refine J_callV0 (pc := 148) (M := mX8_part) (as := [.int (nI c5), .int (nI c7)]) dX8_part_148 fw_X8_at fl_X8_82 fm_X8_at fe_X8_at h19_48 (by decide) rfl rfl rfl (c_X8_at hs (d := d - 1) (Nat.le_trans (by decide) hdm) (w := w43) (n := n) (mv := mv) (rw := rw_81) (nx := nx) (b := b) (bt := bt) (kn := kn) (en := en) (dn := dn) (rf := rf) (kk := kk) (th := th) ⟨h19_48, h20_48, h21_48, h22_48, hb_48, hbl_48, hb3_48⟩ hn1 hn2 gm gr46 gx c5 c7 (by first | assumption | omega) (by first | assumption | omega) (kc := 0) (ks := 0)) hdp (st := [.int (nI (mv (c5 * 7 + c6))), .ref 19]) (Nat.le_of_ble_eq_true rfl) rfl (kr_P fun v65 hv65 => ?_) kx_I
                                      subst hv65
                                      have hq66 := gm (c5 * 7 + c7)
                                      refine J_callV0 (pc := 151) (M := mX8_part) (as := [.int (nI (mv (c5 * 7 + c6))), .int (nI (mv (c5 * 7 + c7)))]) dX8_part_151 fw_X8_join fl_X8_217 fm_X8_join fe_X8_join h19_48 (by decide) rfl rfl rfl (c_X8_join hs (d := d - 1) (Nat.le_trans (by decide) hdm) (w := w43) (n := n) (mv := mv) (rw := rw_81) (nx := nx) (b := b) (bt := bt) (kn := kn) (en := en) (dn := dn) (rf := rf) (kk := kk) (th := th) ⟨h19_48, h20_48, h21_48, h22_48, hb_48, hbl_48, hb3_48⟩ hn1 hn2 gm gr46 gx (mv (c5 * 7 + c6)) (mv (c5 * 7 + c7)) (by first | assumption | omega) (by first | assumption | omega) (kc := 0) (ks := 0)) hdp (st := []) (Nat.le_of_ble_eq_true rfl) rfl (kr_V fun w67 hw67 => ?_) kx_V
                                      obtain ⟨rw67, hR67, hFc67, hgrw67, hp67_0⟩ := hw67
                                      obtain ⟨h19_67, h20_67, h21_67, h22_67, hbb_67, hbl_67, hb3_67⟩ := hR67
                                      have hF67 := hF45.tr hFc67
                                      have hjj := hp67_0
                                      have hDj := Dn_join hp67_0 ((hy3 c5 (by omega)).1 c6 (by omega)) ((hy3 c5 (by omega)).1 c7 (by omega)) (by assumption) (by assumption)
                                      have jl1 := jn_lb hv81_3 ((hy3 c5 (by omega)).1 c6 (by omega)) hjj
                                      have jl2 := jn_u hv81_4 ((hy3 c5 (by omega)).1 c6 (by omega)) ((hy3 c5 (by omega)).1 c7 (by omega)) hjj (fun R h1 h2 h3 => h3 c6 c7 c5 (by omega) (by omega) (by omega) (tb_1 (by omega)) (hv81_4 R h1 h2 h3 c6 c7 (by omega) (by omega) (by assumption)))
                                      have jl3 := jn_same hjj hy1 hy2 hv81_5
                                      refine J_iconst (pc := 154) (v := nI 1) dX8_part_154 (by decide) ?_
                                      refine J_istore (pc := 155) dX8_part_155 (by decide) rfl ?_
                                      show J X mX8_part d kc ks 157 [some (.ref 19), some (.int (nI s)), some (.int (nI a)), some (.int (nI c)), some (.int (nI 1)), some (.int (nI c5)), some (.int (nI c6)), some (.int (nI c7))] [] w67 _
                                      refine J_iincN (pc := 157) (b := 1) dX8_part_157 rfl (by decide) (by decide) rfl ?_
                                      show J X mX8_part d kc ks 160 [some (.ref 19), some (.int (nI s)), some (.int (nI a)), some (.int (nI c)), some (.int (nI 1)), some (.int (nI c5)), some (.int (nI c6)), some (.int (nI (c7 + 1)))] [] w67 _
                                      refine J_goto (pc := 160) (tgt := 81) dX8_part_160 (by decide) ?_
                                      exact J_sub (L' := [some (.ref 19), some (.int (nI s)), some (.int (nI a)), some (.int (nI c)), some (.int (nI 1)), some (.int (nI c5)), some (.int (nI c6)), some (.int (nI (c7 + 1)))]) ⟨rfl, ⟨rfl, ⟨rfl, ⟨rfl, ⟨rfl, ⟨rfl, ⟨rfl, ⟨rfl, trivial⟩⟩⟩⟩⟩⟩⟩⟩ (ihlp81_42 w67 rw67 1 (c7 + 1) ⟨h19_67, h20_67, h21_67, h22_67, hbb_67, hbl_67, hb3_67⟩ hF67 hgrw67 (by first | assumption | omega) (by first | assumption | omega) (by first | assumption | omega) (by first | exact jl1 | exact hv81_3) (by first | exact jl2 | exact hv81_4) (by first | exact jl3 | exact hv81_5) (by first | (intro h; omega) | exact fun h => ⟨(hv81_6 h).1, RK2_s (hv81_6 h).2 (fun _ => by assumption)⟩ | exact fun h => ⟨(hv81_6 h).1, RK2_s (hv81_6 h).2 (fun e => absurd e (by assumption))⟩) (by first | assumption | omega) (by omega))
                            exact J_sub (L' := [some (.ref 19), some (.int (nI s)), some (.int (nI a)), some (.int (nI c)), some (.int (nI s4)), some (.int (nI c5)), some (.int (nI c6)), some (.int (nI 0))]) ⟨rfl, ⟨rfl, ⟨rfl, ⟨rfl, ⟨rfl, ⟨rfl, ⟨rfl, ⟨rfl, trivial⟩⟩⟩⟩⟩⟩⟩⟩ (lp81_42 _ w34 rw_69 s4 0 ⟨h19_39, h20_39, h21_39, h22_39, hb_39, hbl_39, hb3_39⟩ hF36 gr37 (by first | assumption | omega) (by assumption) (by assumption) (by exact hv69_3) (by exact hv69_4) (by exact hv69_5) (by exact hv69_6) (by first | assumption | omega) (Nat.lt_succ_self _))
                      exact J_sub (L' := [some (.ref 19), some (.int (nI s)), some (.int (nI a)), some (.int (nI c)), some (.int (nI v4)), some (.int (nI c5)), some (.int (nI 0)), none]) ⟨rfl, ⟨rfl, ⟨rfl, ⟨rfl, ⟨rfl, ⟨rfl, ⟨rfl, trivial⟩⟩⟩⟩⟩⟩⟩ (lp69_33 _ w21 rw_47 v4 0 ⟨h19_26, h20_26, h21_26, h22_26, hb_26, hbl_26, hb3_26⟩ hF23 gr24 (by first | assumption | omega) (by first | assumption | omega) (by first | assumption | omega) (by exact hv47_3) (by exact hv47_4) (by exact hv47_5) (by exact fun h => ⟨hv47_6 h, RK2_0⟩) (by first | assumption | omega) (Nat.lt_succ_self _))
                    · refine J_goto (pc := 63) (tgt := 169) dX8_part_63 (by decide) ?_
                      refine J_iincN (pc := 169) (b := 1) dX8_part_169 rfl (by decide) (by decide) rfl ?_
                      show J X mX8_part d kc ks 172 [some (.ref 19), some (.int (nI s)), some (.int (nI a)), some (.int (nI c)), some (.int (nI v4)), some (.int (nI (c5 + 1))), none, none] [] w21 _
                      refine J_goto (pc := 172) (tgt := 47) dX8_part_172 (by decide) ?_
                      exact J_sub (L' := [some (.ref 19), some (.int (nI s)), some (.int (nI a)), some (.int (nI c)), some (.int (nI v4)), some (.int (nI (c5 + 1))), none, none]) ⟨rfl, ⟨rfl, ⟨rfl, ⟨rfl, ⟨rfl, ⟨rfl, trivial⟩⟩⟩⟩⟩⟩ (ihlp47_20 w21 rw_47 v4 (c5 + 1) ⟨h19_26, h20_26, h21_26, h22_26, hb_26, hbl_26, hb3_26⟩ hF23 gr24 (by first | assumption | omega) (by first | assumption | omega) (by first | assumption | omega) (by first | exact hv69_3 | exact hv47_3) (by first | exact hv69_4 | exact hv47_4) (by first | exact hv69_5 | exact hv47_5) (by first | exact fun h => RKs_s (hv69_6 h).1 (hv69_6 h).2 (by omega) | exact fun h => RKs_n (hv47_6 h) (tb_0 (by omega))) (by first | assumption | omega) (by omega))
              exact J_sub (L' := [some (.ref 19), some (.int (nI s)), some (.int (nI a)), some (.int (nI c)), some (.int (nI 0)), some (.int (nI 0)), none, none]) ⟨rfl, ⟨rfl, ⟨rfl, ⟨rfl, ⟨rfl, ⟨rfl, trivial⟩⟩⟩⟩⟩⟩ (lp47_20 _ w12 rw_36 0 0 ⟨h19_17, h20_17, h21_17, h22_17, hb_17, hbl_17, hb3_17⟩ hF14 gr15 (by first | assumption | omega) (by first | assumption | omega) (by first | assumption | omega) (by exact hv36_1) (by exact hv36_2) (by exact hv36_3) (by exact fun _ k hk => absurd hk (Nat.not_lt_zero k)) (by first | assumption | omega) (Nat.lt_succ_self _))
        exact J_sub (L' := [some (.ref 19), some (.int (nI s)), some (.int (nI a)), some (.int (nI c)), some (.int (nI 1)), none, none, none]) ⟨rfl, ⟨rfl, ⟨rfl, ⟨rfl, ⟨rfl, trivial⟩⟩⟩⟩⟩ (lp36_11 _ w10 rw10 1 ⟨h19_10, h20_10, h21_10, h22_10, hbb_10, hbl_10, hb3_10⟩ hF10 hgrw10 (by first | assumption | omega) (by exact jl1) (by exact jl2) (by exact jl3) (by intro h; omega) (Nat.lt_succ_self _))
      · refine J_aload_n (pc := 12) dX8_part_12 rfl rfl rfl ?_
        refine J_get (pc := 13) (k := 2) dX8_part_13 kC9 (by decide) ff_X8_17 h19_7 rfl ?_
        refine J_iload (pc := 16) dX8_part_16 rfl ?_
        refine J_iload (pc := 18) dX8_part_18 rfl ?_
        refine J_iastF (pc := 20) dX8_part_20 h21_7 (by omega) (by decide) (fun w68 hln68 hc68 hne68 => ?_)
        have hg68 : ∀ i, (up rw_3 c4 c4) i < 7 := up_b gr5 (by omega)
        have h19_68 := (hne68 19 (by decide)).trans h19_7
        have h20_68 := (hne68 20 (by decide)).trans h20_7
        have h22_68 := (hne68 22 (by decide)).trans h22_7
        have hb_68 := (hne68 _ (Nat.ne_of_gt (Nat.lt_of_lt_of_le (by decide) hb3_7))).trans hb_7
        have hF68 := hF4.st hln68 hne68 (Or.inl (by decide))
        refine J_iincN (pc := 21) (b := 1) dX8_part_21 rfl (by decide) (by decide) rfl ?_
        show J X mX8_part d kc ks 24 [some (.ref 19), some (.int (nI s)), some (.int (nI a)), some (.int (nI c)), some (.int (nI (c4 + 1))), none, none, none] [] w68 _
        refine J_goto (pc := 24) (tgt := 3) dX8_part_24 (by decide) ?_
        exact J_sub (L' := [some (.ref 19), some (.int (nI s)), some (.int (nI a)), some (.int (nI c)), some (.int (nI (c4 + 1))), none, none, none]) ⟨rfl, ⟨rfl, ⟨rfl, ⟨rfl, ⟨rfl, trivial⟩⟩⟩⟩⟩ (ihlp3_1 w68 (up rw_3 c4 c4) (c4 + 1) ⟨h19_68, h20_68, hc68, h22_68, hb_68, hbl_7, hb3_7⟩ hF68 hg68 (by intro p hp; by_cases e : p = c4; (rw [e]; exact up_s _ _ _); (rw [up_n e]; exact hv3_0 p (by omega))) (by first | assumption | omega) (by omega))
  exact J_sub (L' := [some (.ref 19), some (.int (nI s)), some (.int (nI a)), some (.int (nI c)), some (.int (nI 0)), none, none, none]) ⟨rfl, ⟨rfl, ⟨rfl, ⟨rfl, ⟨rfl, trivial⟩⟩⟩⟩⟩ (lp3_1 _ w rw 0 ⟨h19, h20, h21, h22, hbb, hbl, hb3⟩ hF gr (by intro p hp; omega) (by first | assumption | omega) (Nat.lt_succ_self _))
set_option maxRecDepth 100000 in
set_option maxHeartbeats 40000000 in
theorem c_X8_blocks_ate {X : jX} (hs : X.1.stackTraces = false) {d : Nat} (hd : 2 ≤ d) {n : Nat} {mv rw nx : Nat → Nat} {b : Nat} {bt : List Int32} {kn en dn rf kk th : Int32} {w : List jC} (hR : RM n mv rw nx b bt kn en dn rf kk th w) (hn1 : 2 ≤ n) (hn2 : n ≤ 7) (gm : ∀ i, mv i < 7) (gr : ∀ i, rw i < 7) (gx : ∀ i, nx i < 7) (s : Int32) (a : Int32) (c : Int32) (hy0 : PM n mv) {kc ks : Nat} : jMet X mX8_blocks d kc ks [.ref 19, .int s, .int a, .int c] w (pJ (fun v w' => ∃ (rw' : Nat → Nat), ∃ (th' : Int32), RM n mv rw' nx b bt kn en dn rf kk th' w' ∧ FR b b w w' ∧ (∀ i, rw' i < 7) ∧ ((th' = nI 1 ∧ ¬ (isN a n ∧ isN c n)) ∨ (th' = nI 2 ∧ (isN a n ∧ isN c n) ∧ ¬ (isN s 64)) ∨ (th' = nI 0 ∧ ∃ a1 b1 c1 : Nat, s = nI a1 ∧ a = nI b1 ∧ c = nI c1 ∧ a1 < 64 ∧ b1 < n ∧ c1 < n ∧ v = nI (ct (fun p => ∀ q, q < p → ¬ Bcr n mv a1 b1 c1 p q) n))))) := by
  refine jMet_of hs (by decide +kernel) (Nat.le_of_ble_eq_true rfl) (L := [some (.ref 19), some (.int s), some (.int a), some (.int c), none, none]) rfl ?_
  have hdm : 1 ≤ d - 1 := by omega
  have hdp : d - 1 + 1 ≤ d := by omega
  have hfc := fc_7 hn2
  have hfp := fc_pos n
  obtain ⟨h19, h20, h21, h22, hbb, hbl, hb3⟩ := hR
  have hF : FR b b w w := FR.rf
  refine J_aload_n (pc := 0) dX8_blocks_0 rfl rfl rfl ?_
  refine J_aload_n (pc := 1) dX8_blocks_1 rfl rfl rfl ?_
  refine J_iload_n (pc := 2) dX8_blocks_2 rfl rfl ?_
  refine J_callV0 (pc := 3) (M := mX8_blocks) (as := [.int a]) dX8_blocks_3 fw_X8_isPoint fl_X8_118 fm_X8_isPoint fe_X8_isPoint h19 (by decide) rfl rfl rfl (c_X8_isPoint hs (d := d - 1) (Nat.le_trans (by decide) hdm) (w := w) (n := n) (mv := mv) (rw := rw) (nx := nx) (b := b) (bt := bt) (kn := kn) (en := en) (dn := dn) (rf := rf) (kk := kk) (th := th) ⟨h19, h20, h21, h22, hbb, hbl, hb3⟩ hn1 hn2 gm gr gx a (kc := 0) (ks := 0)) hdp (st := [.ref 19]) (Nat.le_of_ble_eq_true rfl) rfl (kr_P fun v1 hv1 => ?_) kx_I
  rcases hv1 with ⟨rfl, hk1_0⟩ | ⟨q1, rfl, hk1_0, rfl⟩
  · refine J_if_eqN (pc := 6) (tgt := 17) dX8_blocks_6 (by decide) (by decide) (fun _ => ?_) (fun h => absurd h (by decide))
    refine J_iconst (pc := 17) (v := nI 1) dX8_blocks_17 (by decide) ?_
    refine J_goto (pc := 18) (tgt := 22) dX8_blocks_18 (by decide) ?_
    refine J_iload_n (pc := 22) dX8_blocks_22 rfl rfl ?_
    refine J_callS0 (pc := 23) (M := mX8_blocks) (as := [.int s]) dX8_blocks_23 fw_X8_isSet fl_X8_134 fs_X8_isSet rfl (c_X8_isSet hs (d := d - 1) (Nat.le_trans (by decide) hdm) (w := w) s (kc := 0) (ks := 0)) hdp (st := [.int (nI 1), .ref 19]) (Nat.le_of_ble_eq_true rfl) rfl (kr_P fun v2 hv2 => ?_) kx_I
    rcases hv2 with ⟨rfl, hk2_0⟩ | ⟨q2, rfl, hk2_0, rfl⟩
    · refine J_if_neN (pc := 26) (tgt := 33) dX8_blocks_26 (by decide) (by decide) (fun h => absurd h (by decide)) (fun _ => ?_)
      refine J_iconst (pc := 29) (v := nI 1) dX8_blocks_29 (by decide) ?_
      refine J_goto (pc := 30) (tgt := 34) dX8_blocks_30 (by decide) ?_
      refine J_callV0 (pc := 34) (M := mX8_blocks) (as := [.int (nI 1), .int (nI 1)]) dX8_blocks_34 fw_X8_isThrown fl_X8_35 fm_X8_isThrown fe_X8_isThrown h19 (by decide) rfl rfl rfl (c_X8_isThrown hs (d := d - 1) (Nat.le_trans (by decide) hdm) (w := w) (n := n) (mv := mv) (rw := rw) (nx := nx) (b := b) (bt := bt) (kn := kn) (en := en) (dn := dn) (rf := rf) (kk := kk) (th := th) ⟨h19, h20, h21, h22, hbb, hbl, hb3⟩ hn1 hn2 gm gr gx 1 1 (by first | assumption | omega) (by first | assumption | omega) (kc := 0) (ks := 0)) hdp (st := []) (Nat.le_of_ble_eq_true rfl) rfl (kr_I fun v3 w3 hv3 hw3 => ?_) kx_I
      obtain ⟨hR3, hFc3⟩ := hw3
      obtain ⟨h19_3, h20_3, h21_3, h22_3, hbb_3, hbl_3, hb3_3⟩ := hR3
      have hF3 := hF.tr hFc3
      subst hv3
      show J X mX8_blocks d kc ks 37 [some (.ref 19), some (.int s), some (.int a), some (.int c), none, none] [.int (nI 1)] w3 _
      refine J_if_eqN (pc := 37) (tgt := 42) dX8_blocks_37 (by decide) (by decide) (fun h => absurd h (by decide)) (fun _ => ?_)
      refine J_iconst (pc := 40) (v := nI 0) dX8_blocks_40 (by decide) ?_
      exact J_iret (pc := 41) dX8_blocks_41 rfl (⟨rw, nI (tW 1 1), ⟨h19_3, h20_3, h21_3, h22_3, hbb_3, hbl_3, hb3_3⟩, hF3, gr, (by first | exact Or.inl ⟨rfl, fun g => (by first | exact ne_isN (by assumption) g | exact ne_isN (by assumption) g.1 | exact ne_isN (by assumption) g.2)⟩ | exact Or.inr (Or.inl ⟨rfl, ⟨isN_of (by first | assumption | omega), isN_of (by first | assumption | omega)⟩, fun g => (by first | exact ne_isN (by assumption) g | exact ne_isN (by assumption) g.1 | exact ne_isN (by assumption) g.2)⟩) | exact Or.inr (Or.inr ⟨rfl, ⟨_, _, _, rfl, rfl, rfl, (by omega), (by omega), (by omega), (by exact congrArg nI hend)⟩⟩))⟩)
    · refine J_if_neN (pc := 26) (tgt := 33) dX8_blocks_26 (by decide) (by decide) (fun _ => ?_) (fun h => absurd h (by decide))
      refine J_iconst (pc := 33) (v := nI 0) dX8_blocks_33 (by decide) ?_
      refine J_callV0 (pc := 34) (M := mX8_blocks) (as := [.int (nI 1), .int (nI 0)]) dX8_blocks_34 fw_X8_isThrown fl_X8_35 fm_X8_isThrown fe_X8_isThrown h19 (by decide) rfl rfl rfl (c_X8_isThrown hs (d := d - 1) (Nat.le_trans (by decide) hdm) (w := w) (n := n) (mv := mv) (rw := rw) (nx := nx) (b := b) (bt := bt) (kn := kn) (en := en) (dn := dn) (rf := rf) (kk := kk) (th := th) ⟨h19, h20, h21, h22, hbb, hbl, hb3⟩ hn1 hn2 gm gr gx 1 0 (by first | assumption | omega) (by first | assumption | omega) (kc := 0) (ks := 0)) hdp (st := []) (Nat.le_of_ble_eq_true rfl) rfl (kr_I fun v4 w4 hv4 hw4 => ?_) kx_I
      obtain ⟨hR4, hFc4⟩ := hw4
      obtain ⟨h19_4, h20_4, h21_4, h22_4, hbb_4, hbl_4, hb3_4⟩ := hR4
      have hF4 := hF.tr hFc4
      subst hv4
      show J X mX8_blocks d kc ks 37 [some (.ref 19), some (.int (nI q2)), some (.int a), some (.int c), none, none] [.int (nI 1)] w4 _
      refine J_if_eqN (pc := 37) (tgt := 42) dX8_blocks_37 (by decide) (by decide) (fun h => absurd h (by decide)) (fun _ => ?_)
      refine J_iconst (pc := 40) (v := nI 0) dX8_blocks_40 (by decide) ?_
      exact J_iret (pc := 41) dX8_blocks_41 rfl (⟨rw, nI (tW 1 0), ⟨h19_4, h20_4, h21_4, h22_4, hbb_4, hbl_4, hb3_4⟩, hF4, gr, (by first | exact Or.inl ⟨rfl, fun g => (by first | exact ne_isN (by assumption) g | exact ne_isN (by assumption) g.1 | exact ne_isN (by assumption) g.2)⟩ | exact Or.inr (Or.inl ⟨rfl, ⟨isN_of (by first | assumption | omega), isN_of (by first | assumption | omega)⟩, fun g => (by first | exact ne_isN (by assumption) g | exact ne_isN (by assumption) g.1 | exact ne_isN (by assumption) g.2)⟩) | exact Or.inr (Or.inr ⟨rfl, ⟨_, _, _, rfl, rfl, rfl, (by omega), (by omega), (by omega), (by exact congrArg nI hend)⟩⟩))⟩)
  · refine J_if_eqN (pc := 6) (tgt := 17) dX8_blocks_6 (by decide) (by decide) (fun h => absurd h (by decide)) (fun _ => ?_)
    refine J_aload_n (pc := 9) dX8_blocks_9 rfl rfl rfl ?_
    refine J_iload_n (pc := 10) dX8_blocks_10 rfl rfl ?_
    refine J_callV0 (pc := 11) (M := mX8_blocks) (as := [.int c]) dX8_blocks_11 fw_X8_isPoint fl_X8_118 fm_X8_isPoint fe_X8_isPoint h19 (by decide) rfl rfl rfl (c_X8_isPoint hs (d := d - 1) (Nat.le_trans (by decide) hdm) (w := w) (n := n) (mv := mv) (rw := rw) (nx := nx) (b := b) (bt := bt) (kn := kn) (en := en) (dn := dn) (rf := rf) (kk := kk) (th := th) ⟨h19, h20, h21, h22, hbb, hbl, hb3⟩ hn1 hn2 gm gr gx c (kc := 0) (ks := 0)) hdp (st := [.ref 19]) (Nat.le_of_ble_eq_true rfl) rfl (kr_P fun v5 hv5 => ?_) kx_I
    rcases hv5 with ⟨rfl, hk5_0⟩ | ⟨q5, rfl, hk5_0, rfl⟩
    · refine J_if_neN (pc := 14) (tgt := 21) dX8_blocks_14 (by decide) (by decide) (fun h => absurd h (by decide)) (fun _ => ?_)
      refine J_iconst (pc := 17) (v := nI 1) dX8_blocks_17 (by decide) ?_
      refine J_goto (pc := 18) (tgt := 22) dX8_blocks_18 (by decide) ?_
      refine J_iload_n (pc := 22) dX8_blocks_22 rfl rfl ?_
      refine J_callS0 (pc := 23) (M := mX8_blocks) (as := [.int s]) dX8_blocks_23 fw_X8_isSet fl_X8_134 fs_X8_isSet rfl (c_X8_isSet hs (d := d - 1) (Nat.le_trans (by decide) hdm) (w := w) s (kc := 0) (ks := 0)) hdp (st := [.int (nI 1), .ref 19]) (Nat.le_of_ble_eq_true rfl) rfl (kr_P fun v6 hv6 => ?_) kx_I
      rcases hv6 with ⟨rfl, hk6_0⟩ | ⟨q6, rfl, hk6_0, rfl⟩
      · refine J_if_neN (pc := 26) (tgt := 33) dX8_blocks_26 (by decide) (by decide) (fun h => absurd h (by decide)) (fun _ => ?_)
        refine J_iconst (pc := 29) (v := nI 1) dX8_blocks_29 (by decide) ?_
        refine J_goto (pc := 30) (tgt := 34) dX8_blocks_30 (by decide) ?_
        refine J_callV0 (pc := 34) (M := mX8_blocks) (as := [.int (nI 1), .int (nI 1)]) dX8_blocks_34 fw_X8_isThrown fl_X8_35 fm_X8_isThrown fe_X8_isThrown h19 (by decide) rfl rfl rfl (c_X8_isThrown hs (d := d - 1) (Nat.le_trans (by decide) hdm) (w := w) (n := n) (mv := mv) (rw := rw) (nx := nx) (b := b) (bt := bt) (kn := kn) (en := en) (dn := dn) (rf := rf) (kk := kk) (th := th) ⟨h19, h20, h21, h22, hbb, hbl, hb3⟩ hn1 hn2 gm gr gx 1 1 (by first | assumption | omega) (by first | assumption | omega) (kc := 0) (ks := 0)) hdp (st := []) (Nat.le_of_ble_eq_true rfl) rfl (kr_I fun v7 w7 hv7 hw7 => ?_) kx_I
        obtain ⟨hR7, hFc7⟩ := hw7
        obtain ⟨h19_7, h20_7, h21_7, h22_7, hbb_7, hbl_7, hb3_7⟩ := hR7
        have hF7 := hF.tr hFc7
        subst hv7
        show J X mX8_blocks d kc ks 37 [some (.ref 19), some (.int s), some (.int (nI q1)), some (.int c), none, none] [.int (nI 1)] w7 _
        refine J_if_eqN (pc := 37) (tgt := 42) dX8_blocks_37 (by decide) (by decide) (fun h => absurd h (by decide)) (fun _ => ?_)
        refine J_iconst (pc := 40) (v := nI 0) dX8_blocks_40 (by decide) ?_
        exact J_iret (pc := 41) dX8_blocks_41 rfl (⟨rw, nI (tW 1 1), ⟨h19_7, h20_7, h21_7, h22_7, hbb_7, hbl_7, hb3_7⟩, hF7, gr, (by first | exact Or.inl ⟨rfl, fun g => (by first | exact ne_isN (by assumption) g | exact ne_isN (by assumption) g.1 | exact ne_isN (by assumption) g.2)⟩ | exact Or.inr (Or.inl ⟨rfl, ⟨isN_of (by first | assumption | omega), isN_of (by first | assumption | omega)⟩, fun g => (by first | exact ne_isN (by assumption) g | exact ne_isN (by assumption) g.1 | exact ne_isN (by assumption) g.2)⟩) | exact Or.inr (Or.inr ⟨rfl, ⟨_, _, _, rfl, rfl, rfl, (by omega), (by omega), (by omega), (by exact congrArg nI hend)⟩⟩))⟩)
      · refine J_if_neN (pc := 26) (tgt := 33) dX8_blocks_26 (by decide) (by decide) (fun _ => ?_) (fun h => absurd h (by decide))
        refine J_iconst (pc := 33) (v := nI 0) dX8_blocks_33 (by decide) ?_
        refine J_callV0 (pc := 34) (M := mX8_blocks) (as := [.int (nI 1), .int (nI 0)]) dX8_blocks_34 fw_X8_isThrown fl_X8_35 fm_X8_isThrown fe_X8_isThrown h19 (by decide) rfl rfl rfl (c_X8_isThrown hs (d := d - 1) (Nat.le_trans (by decide) hdm) (w := w) (n := n) (mv := mv) (rw := rw) (nx := nx) (b := b) (bt := bt) (kn := kn) (en := en) (dn := dn) (rf := rf) (kk := kk) (th := th) ⟨h19, h20, h21, h22, hbb, hbl, hb3⟩ hn1 hn2 gm gr gx 1 0 (by first | assumption | omega) (by first | assumption | omega) (kc := 0) (ks := 0)) hdp (st := []) (Nat.le_of_ble_eq_true rfl) rfl (kr_I fun v8 w8 hv8 hw8 => ?_) kx_I
        obtain ⟨hR8, hFc8⟩ := hw8
        obtain ⟨h19_8, h20_8, h21_8, h22_8, hbb_8, hbl_8, hb3_8⟩ := hR8
        have hF8 := hF.tr hFc8
        subst hv8
        show J X mX8_blocks d kc ks 37 [some (.ref 19), some (.int (nI q6)), some (.int (nI q1)), some (.int c), none, none] [.int (nI 1)] w8 _
        refine J_if_eqN (pc := 37) (tgt := 42) dX8_blocks_37 (by decide) (by decide) (fun h => absurd h (by decide)) (fun _ => ?_)
        refine J_iconst (pc := 40) (v := nI 0) dX8_blocks_40 (by decide) ?_
        exact J_iret (pc := 41) dX8_blocks_41 rfl (⟨rw, nI (tW 1 0), ⟨h19_8, h20_8, h21_8, h22_8, hbb_8, hbl_8, hb3_8⟩, hF8, gr, (by first | exact Or.inl ⟨rfl, fun g => (by first | exact ne_isN (by assumption) g | exact ne_isN (by assumption) g.1 | exact ne_isN (by assumption) g.2)⟩ | exact Or.inr (Or.inl ⟨rfl, ⟨isN_of (by first | assumption | omega), isN_of (by first | assumption | omega)⟩, fun g => (by first | exact ne_isN (by assumption) g | exact ne_isN (by assumption) g.1 | exact ne_isN (by assumption) g.2)⟩) | exact Or.inr (Or.inr ⟨rfl, ⟨_, _, _, rfl, rfl, rfl, (by omega), (by omega), (by omega), (by exact congrArg nI hend)⟩⟩))⟩)
    · refine J_if_neN (pc := 14) (tgt := 21) dX8_blocks_14 (by decide) (by decide) (fun _ => ?_) (fun h => absurd h (by decide))
      refine J_iconst (pc := 21) (v := nI 0) dX8_blocks_21 (by decide) ?_
      refine J_iload_n (pc := 22) dX8_blocks_22 rfl rfl ?_
      refine J_callS0 (pc := 23) (M := mX8_blocks) (as := [.int s]) dX8_blocks_23 fw_X8_isSet fl_X8_134 fs_X8_isSet rfl (c_X8_isSet hs (d := d - 1) (Nat.le_trans (by decide) hdm) (w := w) s (kc := 0) (ks := 0)) hdp (st := [.int (nI 0), .ref 19]) (Nat.le_of_ble_eq_true rfl) rfl (kr_P fun v9 hv9 => ?_) kx_I
      rcases hv9 with ⟨rfl, hk9_0⟩ | ⟨q9, rfl, hk9_0, rfl⟩
      · refine J_if_neN (pc := 26) (tgt := 33) dX8_blocks_26 (by decide) (by decide) (fun h => absurd h (by decide)) (fun _ => ?_)
        refine J_iconst (pc := 29) (v := nI 1) dX8_blocks_29 (by decide) ?_
        refine J_goto (pc := 30) (tgt := 34) dX8_blocks_30 (by decide) ?_
        refine J_callV0 (pc := 34) (M := mX8_blocks) (as := [.int (nI 0), .int (nI 1)]) dX8_blocks_34 fw_X8_isThrown fl_X8_35 fm_X8_isThrown fe_X8_isThrown h19 (by decide) rfl rfl rfl (c_X8_isThrown hs (d := d - 1) (Nat.le_trans (by decide) hdm) (w := w) (n := n) (mv := mv) (rw := rw) (nx := nx) (b := b) (bt := bt) (kn := kn) (en := en) (dn := dn) (rf := rf) (kk := kk) (th := th) ⟨h19, h20, h21, h22, hbb, hbl, hb3⟩ hn1 hn2 gm gr gx 0 1 (by first | assumption | omega) (by first | assumption | omega) (kc := 0) (ks := 0)) hdp (st := []) (Nat.le_of_ble_eq_true rfl) rfl (kr_I fun v10 w10 hv10 hw10 => ?_) kx_I
        obtain ⟨hR10, hFc10⟩ := hw10
        obtain ⟨h19_10, h20_10, h21_10, h22_10, hbb_10, hbl_10, hb3_10⟩ := hR10
        have hF10 := hF.tr hFc10
        subst hv10
        show J X mX8_blocks d kc ks 37 [some (.ref 19), some (.int s), some (.int (nI q1)), some (.int (nI q5)), none, none] [.int (nI 1)] w10 _
        refine J_if_eqN (pc := 37) (tgt := 42) dX8_blocks_37 (by decide) (by decide) (fun h => absurd h (by decide)) (fun _ => ?_)
        refine J_iconst (pc := 40) (v := nI 0) dX8_blocks_40 (by decide) ?_
        exact J_iret (pc := 41) dX8_blocks_41 rfl (⟨rw, nI (tW 0 1), ⟨h19_10, h20_10, h21_10, h22_10, hbb_10, hbl_10, hb3_10⟩, hF10, gr, (by first | exact Or.inl ⟨rfl, fun g => (by first | exact ne_isN (by assumption) g | exact ne_isN (by assumption) g.1 | exact ne_isN (by assumption) g.2)⟩ | exact Or.inr (Or.inl ⟨rfl, ⟨isN_of (by first | assumption | omega), isN_of (by first | assumption | omega)⟩, fun g => (by first | exact ne_isN (by assumption) g | exact ne_isN (by assumption) g.1 | exact ne_isN (by assumption) g.2)⟩) | exact Or.inr (Or.inr ⟨rfl, ⟨_, _, _, rfl, rfl, rfl, (by omega), (by omega), (by omega), (by exact congrArg nI hend)⟩⟩))⟩)
      · refine J_if_neN (pc := 26) (tgt := 33) dX8_blocks_26 (by decide) (by decide) (fun _ => ?_) (fun h => absurd h (by decide))
        refine J_iconst (pc := 33) (v := nI 0) dX8_blocks_33 (by decide) ?_
        refine J_callV0 (pc := 34) (M := mX8_blocks) (as := [.int (nI 0), .int (nI 0)]) dX8_blocks_34 fw_X8_isThrown fl_X8_35 fm_X8_isThrown fe_X8_isThrown h19 (by decide) rfl rfl rfl (c_X8_isThrown hs (d := d - 1) (Nat.le_trans (by decide) hdm) (w := w) (n := n) (mv := mv) (rw := rw) (nx := nx) (b := b) (bt := bt) (kn := kn) (en := en) (dn := dn) (rf := rf) (kk := kk) (th := th) ⟨h19, h20, h21, h22, hbb, hbl, hb3⟩ hn1 hn2 gm gr gx 0 0 (by first | assumption | omega) (by first | assumption | omega) (kc := 0) (ks := 0)) hdp (st := []) (Nat.le_of_ble_eq_true rfl) rfl (kr_I fun v11 w11 hv11 hw11 => ?_) kx_I
        obtain ⟨hR11, hFc11⟩ := hw11
        obtain ⟨h19_11, h20_11, h21_11, h22_11, hbb_11, hbl_11, hb3_11⟩ := hR11
        have hF11 := hF.tr hFc11
        subst hv11
        show J X mX8_blocks d kc ks 37 [some (.ref 19), some (.int (nI q9)), some (.int (nI q1)), some (.int (nI q5)), none, none] [.int (nI 0)] w11 _
        refine J_if_eqN (pc := 37) (tgt := 42) dX8_blocks_37 (by decide) (by decide) (fun _ => ?_) (fun h => absurd h (by decide))
        refine J_aload_n (pc := 42) dX8_blocks_42 rfl rfl rfl ?_
        refine J_iload_n (pc := 43) dX8_blocks_43 rfl rfl ?_
        refine J_iload_n (pc := 44) dX8_blocks_44 rfl rfl ?_
        refine J_iload_n (pc := 45) dX8_blocks_45 rfl rfl ?_
        refine J_callV0 (pc := 46) (M := mX8_blocks) (as := [.int (nI q9), .int (nI q1), .int (nI q5)]) dX8_blocks_46 fw_X8_part fl_X8_220 fm_X8_part fe_X8_part h19_11 (by decide) rfl rfl rfl (c_X8_part_atx hs (d := d - 1) (Nat.le_trans (by decide) hdm) (w := w11) (n := n) (mv := mv) (rw := rw) (nx := nx) (b := b) (bt := bt) (kn := kn) (en := en) (dn := dn) (rf := rf) (kk := kk) (th := nI (tW 0 0)) ⟨h19_11, h20_11, h21_11, h22_11, hbb_11, hbl_11, hb3_11⟩ hn1 hn2 gm gr gx q9 q1 q5 (by first | assumption | omega) (by first | assumption | omega) (by first | assumption | omega) (by first | assumption | omega) (kc := 0) (ks := 0)) hdp (st := []) (Nat.le_of_ble_eq_true rfl) rfl (kr_V fun w12 hw12 => ?_) kx_V
        obtain ⟨rw12, hR12, hFc12, hgrw12, hp12_0, hp12_1⟩ := hw12
        obtain ⟨h19_12, h20_12, h21_12, h22_12, hbb_12, hbl_12, hb3_12⟩ := hR12
        have hF12 := hF11.tr hFc12
        have hl := hp12_0
        have hr := hp12_1
        refine J_iconst (pc := 49) (v := nI 0) dX8_blocks_49 (by decide) ?_
        refine J_istore (pc := 50) dX8_blocks_50 (by decide) rfl ?_
        show J X mX8_blocks d kc ks 52 [some (.ref 19), some (.int (nI q9)), some (.int (nI q1)), some (.int (nI q5)), some (.int (nI 0)), none] [] w12 _
        refine J_iconst (pc := 52) (v := nI 0) dX8_blocks_52 (by decide) ?_
        refine J_istore (pc := 53) dX8_blocks_53 (by decide) rfl ?_
        show J X mX8_blocks d kc ks 55 [some (.ref 19), some (.int (nI q9)), some (.int (nI q1)), some (.int (nI q5)), some (.int (nI 0)), some (.int (nI 0))] [] w12 _
        have lp55_13 : ∀ (fuel : Nat) (z4 : Nat) (c5 : Nat), (LBs rw12 z4 c5) → (c5 ≤ n) → (n - c5 < fuel) → J X mX8_blocks d kc ks 55 [some (.ref 19), some (.int (nI q9)), some (.int (nI q1)), some (.int (nI q5)), some (.int (nI z4)), some (.int (nI c5))] [] w12 (pJ (fun v w' => ∃ (rw' : Nat → Nat), ∃ (th' : Int32), RM n mv rw' nx b bt kn en dn rf kk th' w' ∧ FR b b w w' ∧ (∀ i, rw' i < 7) ∧ ((th' = nI 1 ∧ ¬ (isN (nI q1) n ∧ isN (nI q5) n)) ∨ (th' = nI 2 ∧ (isN (nI q1) n ∧ isN (nI q5) n) ∧ ¬ (isN (nI q9) 64)) ∨ (th' = nI 0 ∧ ∃ a1 b1 c1 : Nat, (nI q9) = nI a1 ∧ (nI q1) = nI b1 ∧ (nI q5) = nI c1 ∧ a1 < 64 ∧ b1 < n ∧ c1 < n ∧ v = nI (ct (fun p => ∀ q, q < p → ¬ Bcr n mv a1 b1 c1 p q) n))))) := by
          intro fuellp55_13
          induction fuellp55_13 with
          | zero => intros; omega
          | succ fuellp55_13 ihlp55_13 =>
            intro z4 c5 hv55_0 hv55_1 hf14
            refine J_iload (pc := 55) dX8_blocks_55 rfl ?_
            refine J_aload_n (pc := 57) dX8_blocks_57 rfl rfl rfl ?_
            refine J_get (pc := 58) (k := 0) dX8_blocks_58 kC9 (by decide) ff_X8_7 h19_12 rfl ?_
            refine J_icmp_geN (pc := 61) (tgt := 84) dX8_blocks_61 (by decide) (by omega) (by omega) (fun ht15 => ?_) (fun hf16 => ?_)
            · refine J_iload (pc := 84) dX8_blocks_84 rfl ?_
              refine J_callS0 (pc := 86) (M := mX8_blocks) (as := [.int (nI z4)]) dX8_blocks_86 fw_J6_bitCount_0f7a4 fl_X8_96 fs_J6_bitCount_0f7a4 rfl (c_J6_bitCount_0f7a4_atx hs (d := d - 1) (Nat.le_trans (by decide) hdm) (w := w12) (nI z4) (kc := 0) (ks := 0)) hdp (st := []) (Nat.le_of_ble_eq_true rfl) rfl (kr_P fun v17 hv17 => ?_) kx_I
              subst hv17
              have hend := blk_ct (by omega) hn2 hl (fun p q hp hq => hr p q hp hq) hv55_0 (by omega)
              exact J_iret (pc := 89) dX8_blocks_89 rfl (⟨rw12, nI (tW 0 0), ⟨h19_12, h20_12, h21_12, h22_12, hbb_12, hbl_12, hb3_12⟩, hF12, hgrw12, (by first | exact Or.inl ⟨rfl, fun g => (by first | exact ne_isN (by assumption) g | exact ne_isN (by assumption) g.1 | exact ne_isN (by assumption) g.2)⟩ | exact Or.inr (Or.inl ⟨rfl, ⟨isN_of (by first | assumption | omega), isN_of (by first | assumption | omega)⟩, fun g => (by first | exact ne_isN (by assumption) g | exact ne_isN (by assumption) g.1 | exact ne_isN (by assumption) g.2)⟩) | exact Or.inr (Or.inr ⟨rfl, ⟨_, _, _, rfl, rfl, rfl, (by omega), (by omega), (by omega), (by exact congrArg nI hend)⟩⟩))⟩)
            · refine J_iload (pc := 64) dX8_blocks_64 rfl ?_
              refine J_iconst (pc := 66) (v := nI 1) dX8_blocks_66 (by decide) ?_
              refine J_aload_n (pc := 67) dX8_blocks_67 rfl rfl rfl ?_
              refine J_get (pc := 68) (k := 2) dX8_blocks_68 kC9 (by decide) ff_X8_17 h19_12 rfl ?_
              refine J_iload (pc := 71) dX8_blocks_71 rfl ?_
              refine J_ialdF (pc := 73) dX8_blocks_73 h21_12 (by omega) (by decide) ?_
              have hq18 := hgrw12 c5
              have hz7 := hv55_0.1
              have hrl := (hl c5 (by omega)).1
              have h2c : 2 ^ rw12 c5 < 2 ^ 31 := Nat.pow_lt_pow_right (by decide) (by omega)
              refine J_shlOne (pc := 74) dX8_blocks_74 (by omega) ?_
              refine J_iorN (pc := 75) dX8_blocks_75 (by omega) (by omega) ?_
              refine J_istore (pc := 76) dX8_blocks_76 (by decide) rfl ?_
              show J X mX8_blocks d kc ks 78 [some (.ref 19), some (.int (nI q9)), some (.int (nI q1)), some (.int (nI q5)), some (.int (nI (z4 ||| (2 ^ (rw12 c5))))), some (.int (nI c5))] [] w12 _
              refine J_iincN (pc := 78) (b := 1) dX8_blocks_78 rfl (by decide) (by decide) rfl ?_
              show J X mX8_blocks d kc ks 81 [some (.ref 19), some (.int (nI q9)), some (.int (nI q1)), some (.int (nI q5)), some (.int (nI (z4 ||| (2 ^ (rw12 c5))))), some (.int (nI (c5 + 1)))] [] w12 _
              refine J_goto (pc := 81) (tgt := 55) dX8_blocks_81 (by decide) ?_
              exact J_sub (L' := [some (.ref 19), some (.int (nI q9)), some (.int (nI q1)), some (.int (nI q5)), some (.int (nI (z4 ||| (2 ^ (rw12 c5))))), some (.int (nI (c5 + 1)))]) ⟨rfl, ⟨rfl, ⟨rfl, ⟨rfl, ⟨rfl, ⟨rfl, trivial⟩⟩⟩⟩⟩⟩ (ihlp55_13 (z4 ||| (2 ^ (rw12 c5))) (c5 + 1) (by exact LBs_s hv55_0 (by omega)) (by first | assumption | omega) (by omega))
        exact J_sub (L' := [some (.ref 19), some (.int (nI q9)), some (.int (nI q1)), some (.int (nI q5)), some (.int (nI 0)), some (.int (nI 0))]) ⟨rfl, ⟨rfl, ⟨rfl, ⟨rfl, ⟨rfl, ⟨rfl, trivial⟩⟩⟩⟩⟩⟩ (lp55_13 _ 0 0 (by exact LBs_0) (by first | assumption | omega) (Nat.lt_succ_self _))
end
section
/-! what is so between two calls, exactly; acts as relations -/
/-- the number of points, done, refused, knocks, the moves -/
abbrev StX : Type := Nat × Int32 × Int32 × Int32 × (Nat → Nat)
def LCx (S : StX) (w : List jC) : Prop := 2 ≤ S.1 ∧ S.1 ≤ 7 ∧ (∀ c, c < 6 → Mv S.1 (S.2.2.2.2 c)) ∧ HX S.1 S.2.1 S.2.2.1 S.2.2.2.1 S.2.2.2.2 w ∧ SH (rX S.1 S.2.1 S.2.2.1 S.2.2.2.1) w
def LRx (o : Nat) (S : StX) (t : Int32) (w : List jC) : Prop := ∃ (mv rw nx : Nat → Nat) (b : Nat) (bt : List Int32) (kn en : Int32), RM S.1 mv rw nx b bt kn en S.2.1 S.2.2.1 S.2.2.2.1 t w ∧ 2 ≤ S.1 ∧ S.1 ≤ 7 ∧ (∀ i, mv i < 7) ∧ (∀ i, rw i < 7) ∧ (∀ i, nx i < 7) ∧ PM S.1 mv ∧ KX S.1 mv kn bt ∧ RLx S.1 S.2.2.2.2 mv ∧ b ≠ o
def LO (o : Nat) (w : List jC) : Prop := 24 ≤ o ∧ ∃ fs : List Value, w[o]? = some (.inr (8, fs)) ∧ fs.length = 2
def LIx (o : Nat) (S S' : StX) (t : Int32) (w : List jC) : Prop := LCx S w ∧ LRx o S' t w ∧ LO o w
def LI (o : Nat) (S S' : StX) (w : List jC) : Prop := ∃ t, LIx o S S' t w
/-- what lies behind the house is kept -/
def F19 (w w' : List jC) : Prop := w.length ≤ w'.length ∧ ∀ i, 19 ≤ i → i < w.length → w'[i]? = w[i]?
theorem F19.of {w w' : List jC} (h : Fr kX w w') : F19 w w' := ⟨h.1, fun i hi hl => h.2 i (Or.inr hi) hl⟩
theorem F19.H {w w' : List jC} (h : FH w w') : F19 w w' := ⟨h.1, fun i hi hl => h.2 i (by omega) hl⟩
theorem F19.N {w w' : List jC} (h : FN w w') : F19 w w' := ⟨h.1, fun i hi hl => h.2 i (by omega) hl⟩
theorem F19.psh {w : List jC} {cs : List jC} : F19 w (w ++ cs) := ⟨by rw [List.length_append]; omega, fun _ _ hl => List.getElem?_append_left hl⟩
theorem LRx.fr {o : Nat} {S : StX} {t : Int32} {w w' : List jC} (h : LRx o S t w) (hF : F19 w w') : LRx o S t w' := by
  obtain ⟨mv, rw, nx, b, bt, kn, en, ⟨h1, h2, h3, h4, h5, h6, h7⟩, r⟩ := h
  exact ⟨mv, rw, nx, b, bt, kn, en, ⟨(hF.2 19 (by decide) (gl h1)).trans h1, (hF.2 20 (by decide) (gl h2)).trans h2, (hF.2 21 (by decide) (gl h3)).trans h3, (hF.2 22 (by decide) (gl h4)).trans h4, (hF.2 b (by omega) (gl h5)).trans h5, h6, h7⟩, r⟩
theorem LO.fr {o : Nat} {w w' : List jC} (h : LO o w) (hF : F19 w w') : LO o w' := by
  obtain ⟨h0, fs, h1, h2⟩ := h
  exact ⟨h0, fs, (hF.2 o (by omega) (gl h1)).trans h1, h2⟩
theorem LIx.c0 {o : Nat} {S S' : StX} {t : Int32} {w : List jC} (h : LIx o S S' t w) : ∃ fs : List Value, w[0]? = some (.inr (7, fs)) := ⟨_, h.1.2.2.2.1.1⟩
theorem LIx.c19 {o : Nat} {S S' : StX} {t : Int32} {w : List jC} (h : LIx o S S' t w) : ∃ fs : List Value, w[19]? = some (.inr (9, fs)) := by
  obtain ⟨_, ⟨mv, rw, nx, b, bt, kn, en, hR, _⟩, _⟩ := h
  exact ⟨_, hR.1⟩
theorem LI.c0 {o : Nat} {S S' : StX} {w : List jC} (h : LI o S S' w) : ∃ fs : List Value, w[0]? = some (.inr (7, fs)) := by
  obtain ⟨t, h⟩ := h
  exact h.c0
theorem LI.c19 {o : Nat} {S S' : StX} {w : List jC} (h : LI o S S' w) : ∃ fs : List Value, w[19]? = some (.inr (9, fs)) := by
  obtain ⟨t, h⟩ := h
  exact h.c19
/-! the class's side -/
theorem LCx.q {S : StX} {w w' : List jC} (h : LCx S w) (hS : SH (rX S.1 S.2.1 S.2.2.1 S.2.2.2.1) w') (hF : Fr kX w w') : LCx S w' := by
  obtain ⟨a1, a2, a3, ⟨a4, a5⟩, a6⟩ := h
  obtain ⟨_, hc, rfl⟩ := hS 0 _ rfl
  exact ⟨a1, a2, a3, ⟨hc, (hF.2 1 (Or.inl rfl) (gl a5)).trans a5⟩, hS⟩
theorem LI.q {o : Nat} {S S' : StX} {w w' : List jC} (h : LI o S S' w) (hS : SH (rX S.1 S.2.1 S.2.2.1 S.2.2.2.1) w') (hF : Fr kX w w') : LI o S S' w' := by
  obtain ⟨t, h1, h2, h3⟩ := h
  exact ⟨t, h1.q hS hF, h2.fr (F19.of hF), h3.fr (F19.of hF)⟩
theorem LCx.psh {S : StX} {w : List jC} {cs : List jC} (h : LCx S w) : LCx S (w ++ cs) := by
  obtain ⟨a1, a2, a3, ⟨a4, a5⟩, a6⟩ := h
  exact ⟨a1, a2, a3, ⟨(List.getElem?_append_left (gl a4)).trans a4, (List.getElem?_append_left (gl a5)).trans a5⟩, a6.push⟩
theorem LI.psh {o : Nat} {S S' : StX} {w w' : List jC} (h : LI o S S' w) (hw : w' = w ++ [.inr (99, [])]) : LI o S S' w' := by
  subst hw
  obtain ⟨t, h1, h2, h3⟩ := h
  exact ⟨t, h1.psh, h2.fr F19.psh, h3.fr F19.psh⟩
theorem LI.eq {o : Nat} {S S' : StX} {w w' : List jC} (h : LI o S S' w) (hw : w' = w) : LI o S S' w' := by
  obtain rfl := hw.symm
  exact h
/-- the moves' cell -/
theorem tA_aF {k : Nat} {f : Nat → Nat} : tA k (aF k f) := ⟨_, rfl, by rw [List.length_map, List.length_range]⟩
theorem LCx.act {S S2 : StX} {w w' : List jC} (h : LCx S w) (hH : HX S2.1 S2.2.1 S2.2.2.1 S2.2.2.2.1 S2.2.2.2.2 w') (hF : FH w w') (h1 : 2 ≤ S2.1) (h2 : S2.1 ≤ 7) (hM : ∀ c, c < 6 → Mv S2.1 (S2.2.2.2.2 c)) : LCx S2 w' := by
  obtain ⟨_, _, _, _, a6⟩ := h
  refine ⟨h1, h2, hM, hH, fun i p hp => ?_⟩
  match i, hp with
  | 0, hp =>
    cases hp
    exact ⟨_, hH.1, rfl⟩
  | 1, hp =>
    cases hp
    exact ⟨_, hH.2, tA_aF⟩
  | i + 2, hp =>
    obtain ⟨c, hc, h2⟩ := a6 (i + 2) p hp
    exact ⟨c, (hF.2 (i + 2) (by omega) (gl hc)).trans hc, h2⟩
theorem LI.act {o : Nat} {S S2 S' : StX} {w w' : List jC} (h : LI o S S' w) (hH : HX S2.1 S2.2.1 S2.2.2.1 S2.2.2.2.1 S2.2.2.2.2 w') (hF : FH w w') (h1 : 2 ≤ S2.1) (h2 : S2.1 ≤ 7) (hM : ∀ c, c < 6 → Mv S2.1 (S2.2.2.2.2 c)) : LI o S2 S' w' := by
  obtain ⟨t, a1, a2, a3⟩ := h
  exact ⟨t, a1.act hH hF h1 h2 hM, a2.fr (F19.H hF), a3.fr (F19.H hF)⟩
theorem LI.nth {o : Nat} {S S2 S' : StX} {w w' : List jC} {st sv rc sz kw : Nat → Nat} {ns tk ro nn : Nat} (h : LI o S S' w) (hH : HX S2.1 S2.2.1 S2.2.2.1 S2.2.2.2.1 S2.2.2.2.2 w') (hF : FN w w') (hC : CM st sv rc sz kw ns tk ro nn w') (hns : ns ≤ 21) (hnn : nn ≤ 7) (h1 : 2 ≤ S2.1) (h2 : S2.1 ≤ 7) (hM : ∀ c, c < 6 → Mv S2.1 (S2.2.2.2.2 c)) : LI o S2 S' w' := by
  obtain ⟨t, ⟨_, _, _, _, a6⟩, a2, a3⟩ := h
  refine ⟨t, ⟨h1, h2, hM, hH, fun i p hp => ?_⟩, a2.fr (F19.N hF), a3.fr (F19.N hF)⟩
  obtain ⟨c2, c3, c4, c5, c6, c7⟩ := hC
  match i, hp with
  | 0, hp =>
    cases hp
    exact ⟨_, hH.1, rfl⟩
  | 1, hp =>
    cases hp
    exact ⟨_, hH.2, tA_aF⟩
  | 2, hp =>
    cases hp
    exact ⟨_, c2, ns, nn, nI tk, nI ro, rfl, hns, hnn⟩
  | 3, hp =>
    cases hp
    exact ⟨_, c3, tA_aF⟩
  | 4, hp =>
    cases hp
    exact ⟨_, c4, tA_aF⟩
  | 5, hp =>
    cases hp
    exact ⟨_, c5, tA_aF⟩
  | 6, hp =>
    cases hp
    exact ⟨_, c6, tA_aF⟩
  | 7, hp =>
    cases hp
    exact ⟨_, c7, tA_aF⟩
  | i + 8, hp =>
    obtain ⟨c, hc, h2⟩ := a6 (i + 8) p hp
    exact ⟨c, (hF.2 (i + 8) (by omega) (gl hc)).trans hc, h2⟩
/-- a plain list of ints as a function -/
theorem aF_of {k : Nat} {xs : List Int32} (h : xs.length = k) : (.inl (0, xs) : jC) = aF k (fun i => (xs.getD i 0).toBitVec.toNat) := by
  unfold aF
  congr 2
  refine List.ext_getElem (by rw [List.length_map, List.length_range]; exact h) (fun i h1 h2 => ?_)
  rw [List.getElem_map, List.getElem_range, ← nI_self, List.getD_eq_getElem?_getD, List.getElem?_eq_getElem h1]
  rfl
/-- the chain's cells as functions -/
theorem CM_of {S : StX} {w : List jC} (h : LCx S w) : ∃ (st sv rc sz kw : Nat → Nat) (ns tk ro nn : Nat), CM st sv rc sz kw ns tk ro nn w := by
  obtain ⟨_, _, _, _, a6⟩ := h
  obtain ⟨_, c2, a, f, b, g, rfl, _, _⟩ := a6 2 _ rfl
  obtain ⟨_, c3, x3, rfl, l3⟩ := a6 3 _ rfl
  obtain ⟨_, c4, x4, rfl, l4⟩ := a6 4 _ rfl
  obtain ⟨_, c5, x5, rfl, l5⟩ := a6 5 _ rfl
  obtain ⟨_, c6, x6, rfl, l6⟩ := a6 6 _ rfl
  obtain ⟨_, c7, x7, rfl, l7⟩ := a6 7 _ rfl
  rw [aF_of l3] at c3
  rw [aF_of l4] at c4
  rw [aF_of l5] at c5
  rw [aF_of l6] at c6
  rw [aF_of l7] at c7
  rw [nI_self b, nI_self g] at c2
  exact ⟨_, _, _, _, _, _, _, _, _, c2, c3, c4, c5, c6, c7⟩
/-! the reference's side -/
theorem LIx.ref {o : Nat} {S S2 : StX} {t : Int32} {w w' : List jC} {b b' : Nat} {mv rw nx : Nat → Nat} {bt : List Int32} {kn en : Int32} (hC : LCx S w) (hO : LO o w) (h24 : b ≠ o) (hb : 23 ≤ b) (hF : FR b b' w w') (hR : RM S2.1 mv rw nx b' bt kn en S2.2.1 S2.2.2.1 S2.2.2.2.1 t w') (h1 : 2 ≤ S2.1) (h2 : S2.1 ≤ 7)
    (gm : ∀ i, mv i < 7) (gr : ∀ i, rw i < 7) (gx : ∀ i, nx i < 7) (hP : PM S2.1 mv) (hK : KX S2.1 mv kn bt) (hL : RLx S2.1 S2.2.2.2.2 mv) : LIx o S S2 t w' ∧ w'[o]? = w[o]? := by
  obtain ⟨a1, a2, a3, ⟨a4, a5⟩, a6⟩ := hC
  obtain ⟨o0, fs, o1, o2⟩ := hO
  have hl := gl o1
  have hk : ∀ i, i < 19 → w'[i]? = w[i]? := fun i hi => hF.2.2 i (Or.inl hi) (by omega) (by omega)
  have ho := hF.at o1 (by omega) (fun e => h24 e.symm)
  refine ⟨⟨⟨a1, a2, a3, ⟨(hk 0 (by decide)).trans a4, (hk 1 (by decide)).trans a5⟩, a6.keep (fun i hi => hk i hi)⟩, ⟨mv, rw, nx, b', bt, kn, en, hR, h1, h2, gm, gr, gx, hP, hK, hL, ?_⟩, ⟨o0, fs, ho, o2⟩⟩, ho.trans o1.symm⟩
  rcases hF.2.1 with e | e
  · rw [e]; exact h24
  · omega
theorem LI.out {o : Nat} {S S' : StX} {w w' : List jC} {k : Nat} {v : Value} {fs : List Value} (h : LI o S S' w) (hfs : fs.length = 2) (hw : w'[o]? = some (.inr (8, fs.set k v))) (hne : ∀ c, c ≠ o → w'[c]? = w[c]?) : LI o S S' w' := by
  obtain ⟨t, ⟨a1, a2, a3, ⟨a4, a5⟩, a6⟩, ⟨mv, rw, nx, b, bt, kn, en, ⟨b1, b2, b3, b4, b5, b6, b7⟩, c1, c2, c3, c4, c5, c6, c7, c8, c9⟩, ⟨o0, _⟩⟩ := h
  refine ⟨t, ⟨a1, a2, a3, ⟨(hne 0 (by omega)).trans a4, (hne 1 (by omega)).trans a5⟩, a6.keep (fun i hi => ?_)⟩, ⟨mv, rw, nx, b, bt, kn, en, ⟨(hne 19 (by omega)).trans b1, (hne 20 (by omega)).trans b2, (hne 21 (by omega)).trans b3, (hne 22 (by omega)).trans b4, (hne b c9).trans b5, b6, b7⟩, c1, c2, c3, c4, c5, c6, c7, c8, c9⟩, ⟨o0, _, hw, by rw [List.length_set]; exact hfs⟩⟩
  have h19 : i < 19 := hi
  exact hne i (by omega)
/-! acts -/
def AG (G1 G2 : Prop) (D : Int32 → StX → Prop) (S : StX) (k : Nat) (v : Int32) (S' : StX) : Prop := (k = 1 ∧ ¬ G1 ∧ S' = S) ∨ (k = 2 ∧ G1 ∧ ¬ G2 ∧ S' = S) ∨ (k = 0 ∧ G1 ∧ G2 ∧ D v S')
section ACTS
variable {G1 G2 : Prop} {D : Int32 → StX → Prop} {S : StX} {k k' : Nat} {v v' : Int32} {a b : StX}
theorem AG.same (hD : ∀ v v' a b, D v a → D v' b → a = b) (h : AG G1 G2 D S k v a) (h' : AG G1 G2 D S k' v' b) : a = b ∧ k = k' := by
  rcases h with ⟨e, g, s⟩ | ⟨e, g, g2, s⟩ | ⟨e, g, g2, s⟩ <;> rcases h' with ⟨e', g', s'⟩ | ⟨e', g', g2', s'⟩ | ⟨e', g', g2', s'⟩
  · exact ⟨s.trans s'.symm, e.trans e'.symm⟩
  · exact absurd g' g
  · exact absurd g' g
  · exact absurd g g'
  · exact ⟨s.trans s'.symm, e.trans e'.symm⟩
  · exact absurd g2' g2
  · exact absurd g g'
  · exact absurd g2 g2'
  · exact ⟨hD _ _ _ _ s s', e.trans e'.symm⟩
theorem AG.val (hV : ∀ v v' a b, D v a → D v' b → v = v') (h : AG G1 G2 D S k v a) (h' : AG G1 G2 D S k v' b) (h0 : k = 0) : v = v' := by
  rcases h with ⟨e, _⟩ | ⟨e, _⟩ | ⟨_, _, _, s⟩
  · omega
  · omega
  · rcases h' with ⟨e, _⟩ | ⟨e, _⟩ | ⟨_, _, _, s'⟩
    · omega
    · omega
    · exact hV _ _ _ _ s s'
theorem AG.k3 (h : AG G1 G2 D S k v a) : k < 3 := by
  rcases h with ⟨e, _⟩ | ⟨e, _⟩ | ⟨e, _⟩ <;> omega
end ACTS
def ES (S : StX) (a x : Nat) : StX := (S.1, S.2.1 + nI 1, S.2.2.1, S.2.2.2.1, up S.2.2.2.2 a x)
def NS (S : StX) : StX := (S.1, S.2.1, S.2.2.1 + nI 1, S.2.2.2.1, S.2.2.2.2)
def KS (S : StX) : StX := (S.1, S.2.1, S.2.2.1, S.2.2.2.1 + nI 1, S.2.2.2.2)
theorem nI_uq {x : Int32} {a b k : Nat} (ha : x = nI a) (hb : x = nI b) (h1 : a < k) (h2 : b < k) (hk : k ≤ 2 ^ 31 := by omega) : a = b := (nI_eq (by omega) (by omega)).mp (ha.symm.trans hb)
theorem ES_M {S : StX} {a x : Nat} (hM : ∀ c, c < 6 → Mv S.1 (S.2.2.2.2 c)) (hx : Mv S.1 x) : ∀ c, c < 6 → Mv (ES S a x).1 ((ES S a x).2.2.2.2 c) := fun c hc => by
  show Mv S.1 (up S.2.2.2.2 a x c)
  by_cases e : c = a
  · rw [e, up_s]; exact hx
  · rw [up_n e]; exact hM c hc
end
section
/-! the house's questions over all its cells -/
/-- all cells behind the house's two -/
def UB (ns nn mn wn tn pc qn qm : Nat) : Prop := ns ≤ 21 ∧ nn ≤ 7 ∧ mn ≤ 5040 ∧ wn ≤ 7 ∧ tn ≤ 7 ∧ (1 ≤ pc ∧ pc ≤ 3) ∧ qn ≤ 7 ∧ qm ≤ 2187
def AU (w : List jC) : Prop := ∃ (st : Nat → Nat), ∃ (sv : Nat → Nat), ∃ (rc : Nat → Nat), ∃ (sz : Nat → Nat), ∃ (kw : Nat → Nat), ∃ (ns : Nat), ∃ (tk : Nat), ∃ (ro : Nat), ∃ (nn : Nat), ∃ (ml : List Int32), ∃ (tg : Nat → Nat), ∃ (mn : Nat), ∃ (wn : Nat), ∃ (po : Nat → Nat), ∃ (tn : Nat), ∃ (ql : List Int32), ∃ (qt : Nat → Nat), ∃ (pw : Nat → Nat), ∃ (qm : Nat), ∃ (pc : Nat), ∃ (qn : Nat), CM st sv rc sz kw ns tk ro nn w ∧ WM ml tg mn wn w ∧ TM po tn w ∧ QM ql qt pw qm pc qn w ∧ UB ns nn mn wn tn pc qn qm
theorem F19.rf {w : List jC} : F19 w w := ⟨Nat.le_refl _, fun _ _ _ => rfl⟩
theorem F19.tr {w w' w'' : List jC} (h : F19 w w') (h' : F19 w' w'') : F19 w w'' := ⟨Nat.le_trans h.1 h'.1, fun i hi hl => (h'.2 i hi (Nat.lt_of_lt_of_le hl h.1)).trans (h.2 i hi hl)⟩
theorem F19.trC {w w' w'' : List jC} (h : F19 w w') (h' : FC w' w'') : F19 w w'' := ⟨by rw [h'.1]; exact h.1, fun i hi hl => (h'.2 i (by omega)).trans (h.2 i hi hl)⟩
theorem F19.trB {a b : Nat} {w w' w'' : List jC} (h : F19 w w') (h' : FB a b w' w'') (hb : b ≤ 18) : F19 w w'' := ⟨by rw [h'.1]; exact h.1, fun i hi hl => (h'.2 i (by omega)).trans (h.2 i hi hl)⟩
theorem F19.trH {w w' w'' : List jC} (h : F19 w w') (h' : FH w' w'') : F19 w w'' := ⟨Nat.le_trans h.1 h'.1, fun i hi hl => (h'.2 i (by omega) (Nat.lt_of_lt_of_le hl h.1)).trans (h.2 i hi hl)⟩
theorem ocL_le (x : Nat) : ∀ f r c, ocL x f r c ≤ c + f
  | 0, _, _ => Nat.le_refl _
  | f + 1, r, c => by
    show (if r = 1754760 then c else ocL x f (c7 r x) (c + 1)) ≤ c + (f + 1)
    have := ocL_le x f (c7 r x) (c + 1)
    split <;> omega
theorem oC_le (x : Nat) : oC x ≤ 12 := ocL_le x 11 x 1
theorem FI_od {n s o : Nat} {cm : Nat → Nat} {ml : List Int32} (h1 : 1 ≤ n) (hn : n ≤ 7) (hB : WX n cm s ml) {tg : Nat → Nat} {mn : Nat} (hF : FI n ml tg mn) (ho : o ≤ 12) : sm (fun i => if oC (tg i) = o then 1 else 0) mn = cd n (fun x => Gg n (gS cm s 6) x ∧ nI (oC x) = nI o) := by
  rw [FI_sm hB hF (P := fun x => oC x = o)]
  refine cd_iff h1 hn (fun x hx => and_congr_right (fun _ => ⟨fun e => congrArg nI e, fun e => ?_⟩))
  have h2 := oC_le x
  exact (nI_eq (by omega) (by omega)).mp e
theorem FI_ev {n s : Nat} {cm : Nat → Nat} {ml : List Int32} (h1 : 1 ≤ n) (hn : n ≤ 7) (hB : WX n cm s ml) {tg : Nat → Nat} {mn : Nat} (hF : FI n ml tg mn) : sm (fun i => if sgC (tg i) n = nI 1 then 1 else 0) mn = cd n (fun x => Gg n (gS cm s 6) x ∧ sg n x = nI 1) := by
  rw [FI_sm hB hF (P := fun x => sgC x n = nI 1)]
  refine cd_iff h1 hn (fun x hx => and_congr_right (fun _ => ?_))
  rw [sign_is hn hx]
set_option maxRecDepth 100000 in
set_option maxHeartbeats 4000000 in
theorem c_X6_blocks_atx {X : jX} (hs : X.1.stackTraces = false) {d : Nat} (hd : 14 ≤ d) {st : Nat → Nat} {sv : Nat → Nat} {rc : Nat → Nat} {sz : Nat → Nat} {kw : Nat → Nat} {ns : Nat} {tk : Nat} {ro : Nat} {nn : Nat} {ml : List Int32} {tg : Nat → Nat} {mn : Nat} {wn : Nat} {po : Nat → Nat} {tn : Nat} {ql : List Int32} {qt : Nat → Nat} {pw : Nat → Nat} {qm : Nat} {pc : Nat} {qn : Nat} {n : Nat} {e r q : Int32} {cm : Nat → Nat} {w : List jC} (hH : HX n e r q cm w) (hn1 : 2 ≤ n) (hn2 : n ≤ 7) (hcm : ∀ c, c < 6 → Mv n (cm c)) (hR : CM st sv rc sz kw ns tk ro nn w) (hRw : WM ml tg mn wn w) (hRt : TM po tn w) (hRq : QM ql qt pw qm pc qn w) (hUB : UB ns nn mn wn tn pc qn qm) (p0 : Int32) (p1 : Int32) (p2 : Int32) {kc ks : Nat} (hkc : 3 ≤ kc) (hks : 18 ≤ ks) : jMet X mX6_blocks d kc ks [.ref 0, .int p0, .int p1, .int p2] w (pX (pJ (fun v w' => ∃ a b c : Nat, p0 = nI a ∧ p1 = nI b ∧ p2 = nI c ∧ a < 64 ∧ b < n ∧ c < n ∧ v = nI (ct (fun p => ∀ q, q < p → ¬ Bc n cm a b c p q) n) ∧ HX n e r q cm w' ∧ F19 w w' ∧ AU w')) (fun E w' => ((E = "java/lang/IndexOutOfBoundsException" ∧ ¬ (isN p1 n ∧ isN p2 n)) ∨ (E = "java/lang/IllegalArgumentException" ∧ (isN p1 n ∧ isN p2 n) ∧ ¬ (isN p0 64))) ∧ w' = w ++ [.inr (99, [])])) := by
  refine jMet_of hs (by decide +kernel) (Nat.le_of_ble_eq_true rfl) (L := [some (.ref 0), some (.int p0), some (.int p1), some (.int p2)]) rfl ?_
  obtain ⟨h0, h1⟩ := hH
  obtain ⟨h2, h3, h4, h5, h6, h7⟩ := hR
  obtain ⟨h8, h9, h10, h11, hz11⟩ := hRw
  obtain ⟨h12, h13⟩ := hRt
  obtain ⟨h14, h15, h16, h17, h18, hz17⟩ := hRq
  obtain ⟨hu1, hu2, hu3, hu4, hu5, ⟨hu6, hu7⟩, hu8, hu9⟩ := hUB
  have hG : F19 w w := F19.rf
  refine J_aload_n (pc := 0) dX6_blocks_0 rfl rfl rfl ?_
  refine J_iload_n (pc := 1) dX6_blocks_1 rfl rfl ?_
  refine J_callV (pc := 2) (M := mX6_blocks) (as := [.int p1]) dX6_blocks_2 fw_X6_needPoint fl_X6_86 fm_X6_needPoint fe_X6_needPoint h0 (by decide) rfl rfl rfl (c_X6_needPoint_att hs (d := d - 1) (by omega) (n := n) (e := e) (r := r) (q := q) hn1 hn2 h0 (w := w) p1 (kc := 1) (ks := 6) (Nat.le_refl _) (Nat.le_refl _)) (by omega) (by omega) (by omega) (st := []) (Nat.le_of_ble_eq_true rfl) rfl (kr_X (kr_V fun w1 hw1 => ?_)) (kx_X fun E1 w1 hx1 => ?_)
  · obtain ⟨hq1, hp1⟩ := hw1
    obtain rfl := hq1.symm
    obtain ⟨b1, hb1, rfl⟩ := hp1
    refine J_aload_n (pc := 5) dX6_blocks_5 rfl rfl rfl ?_
    refine J_iload_n (pc := 6) dX6_blocks_6 rfl rfl ?_
    refine J_callV (pc := 7) (M := mX6_blocks) (as := [.int p2]) dX6_blocks_7 fw_X6_needPoint fl_X6_86 fm_X6_needPoint fe_X6_needPoint h0 (by decide) rfl rfl rfl (c_X6_needPoint_att hs (d := d - 1) (by omega) (n := n) (e := e) (r := r) (q := q) hn1 hn2 h0 (w := w) p2 (kc := 1) (ks := 6) (Nat.le_refl _) (Nat.le_refl _)) (by omega) (by omega) (by omega) (st := []) (Nat.le_of_ble_eq_true rfl) rfl (kr_X (kr_V fun w2 hw2 => ?_)) (kx_X fun E2 w2 hx2 => ?_)
    · obtain ⟨hq2, hp2⟩ := hw2
      obtain rfl := hq2.symm
      obtain ⟨b2, hb2, rfl⟩ := hp2
      refine J_iload_n (pc := 10) dX6_blocks_10 rfl rfl ?_
      refine J_callS (pc := 11) (M := mX6_blocks) (as := [.int p0]) dX6_blocks_11 fw_X6_needSet fl_X6_131 fs_X6_needSet rfl (c_X6_needSet_att hs (d := d - 1) (by omega) (w := w) p0 (kc := 1) (ks := 6) (Nat.le_refl _) (Nat.le_refl _)) (by omega) (by omega) (by omega) (st := []) (Nat.le_of_ble_eq_true rfl) rfl (kr_X (kr_V fun w3 hw3 => ?_)) (kx_X fun E3 w3 hx3 => ?_)
      · obtain ⟨hq3, hp3⟩ := hw3
        obtain rfl := hq3.symm
        obtain ⟨b3, hb3, rfl⟩ := hp3
        refine J_aload_n (pc := 14) dX6_blocks_14 rfl rfl rfl ?_
        refine J_get (pc := 15) (k := 3) dX6_blocks_15 kC7 (by decide) ff_X6_30 h0 rfl ?_
        refine J_aload_n (pc := 18) dX6_blocks_18 rfl rfl rfl ?_
        refine J_get (pc := 19) (k := 0) dX6_blocks_19 kC7 (by decide) ff_X6_9 h0 rfl ?_
        refine J_iload_n (pc := 22) dX6_blocks_22 rfl rfl ?_
        refine J_iload_n (pc := 23) dX6_blocks_23 rfl rfl ?_
        refine J_iload_n (pc := 24) dX6_blocks_24 rfl rfl ?_
        refine J_aload_n (pc := 25) dX6_blocks_25 rfl rfl rfl ?_
        refine J_get (pc := 26) (k := 5) dX6_blocks_26 kC7 (by decide) ff_X6_41 h0 rfl ?_
        refine J_callV0 (pc := 29) (M := mX6_blocks) (as := [.ref 1, .int (nI b3), .int (nI b1), .int (nI b2), .int (nI n)]) dX6_blocks_29 fw_X4_joinBlocks fl_X6_216 fm_X4_joinBlocks fe_X4_joinBlocks h12 (by decide) rfl rfl rfl (c_X4_joinBlocks_atx hs (d := d - 1) (by omega) (po := po) (tn := tn) ⟨h12, h13⟩ h1 (w := w) b3 b1 b2 n (by exact hn2) (by exact hcm) (by assumption) (by exact hb1) (by exact hb2) (kc := 0) (ks := 0)) (by omega) (st := []) (Nat.le_of_ble_eq_true rfl) rfl (kr_V fun w4 hw4 => ?_) kx_V
        obtain ⟨po4, hR4, hFc4, hp4_0, hp4_1, hp4_2, hp4_3⟩ := hw4
        have h0_4 := (hFc4.2 0 (by decide)).trans h0
        have h1_4 := (hFc4.2 1 (by decide)).trans h1
        have h2_4 := (hFc4.2 2 (by decide)).trans h2
        have h3_4 := (hFc4.2 3 (by decide)).trans h3
        have h4_4 := (hFc4.2 4 (by decide)).trans h4
        have h5_4 := (hFc4.2 5 (by decide)).trans h5
        have h6_4 := (hFc4.2 6 (by decide)).trans h6
        have h7_4 := (hFc4.2 7 (by decide)).trans h7
        have h8_4 := (hFc4.2 8 (by decide)).trans h8
        have h9_4 := (hFc4.2 9 (by decide)).trans h9
        have h10_4 := (hFc4.2 10 (by decide)).trans h10
        have h11_4 := (hFc4.2 11 (by decide)).trans h11
        have h14_4 := (hFc4.2 14 (by decide)).trans h14
        have h15_4 := (hFc4.2 15 (by decide)).trans h15
        have h16_4 := (hFc4.2 16 (by decide)).trans h16
        have h17_4 := (hFc4.2 17 (by decide)).trans h17
        have h18_4 := (hFc4.2 18 (by decide)).trans h18
        obtain ⟨h12_4, h13_4⟩ := hR4
        have hG4 := hG.trB hFc4 (by decide)
        have hT := hp4_0
        have hAB := hp4_1
        have hC := hp4_2
        have hU := hp4_3
        refine J_aload_n (pc := 32) dX6_blocks_32 rfl rfl rfl ?_
        refine J_get (pc := 33) (k := 3) dX6_blocks_33 kC7 (by decide) ff_X6_30 h0_4 rfl ?_
        refine J_callV0 (pc := 36) (M := mX6_blocks) (as := []) dX6_blocks_36 fw_X4_parts fl_X6_193 fm_X4_parts fe_X4_parts h12_4 (by decide) rfl rfl rfl (c_X4_parts_atx hs (d := d - 1) (by omega) (po := po4) (tn := n) ⟨h12_4, h13_4⟩ (w := w4) (by exact hn2) (by exact hT.1) (kc := 0) (ks := 0)) (by omega) (st := []) (Nat.le_of_ble_eq_true rfl) rfl (kr_P fun v5 hv5 => ?_) kx_I
        subst hv5
        exact J_iret (pc := 39) dX6_blocks_39 rfl (⟨b3, b1, b2, rfl, rfl, rfl, hb3, hb1, hb2, (by exact congrArg nI (NC_ct (fun p hp q => Bc_is hn2 hb1 hb2 hcm hT hAB hC hU hp q))), ⟨h0_4, h1_4⟩, hG4, ⟨_, _, _, _, _, _, _, _, _, _, _, _, _, _, _, _, _, _, _, _, _, ⟨h2_4, h3_4, h4_4, h5_4, h6_4, h7_4⟩, ⟨h8_4, h9_4, h10_4, h11_4, hz11⟩, ⟨h12_4, h13_4⟩, ⟨h14_4, h15_4, h16_4, h17_4, h18_4, hz17⟩, ⟨(by first | omega | exact CI_ns21 hn2 hci), (by first | omega | exact hbd), (by first | omega | exact hbd), (by first | omega | exact hbd), (by first | omega | exact hbd), ⟨by omega, by omega⟩, (by first | omega | exact hbd), (by first | omega | exact hbd)⟩⟩⟩)
      · exact JX_out (fun _ h => nomatch h) (by obtain ⟨h1x, h2x, h3x⟩ := hx3; exact ⟨Or.inr ⟨h1x, ⟨isN_of (by assumption), isN_of (by assumption)⟩, fun g => ne_isN h3x g⟩, h2x⟩)
    · exact JX_out (fun _ h => nomatch h) (by obtain ⟨h1x, h2x, h3x⟩ := hx2; exact ⟨Or.inl ⟨h1x, fun g => ne_isN h3x g.2⟩, h2x⟩)
  · exact JX_out (fun _ h => nomatch h) (by obtain ⟨h1x, h2x, h3x⟩ := hx1; exact ⟨Or.inl ⟨h1x, fun g => ne_isN h3x g.1⟩, h2x⟩)
end
