section
/-! exact contracts of the class: espec13 -/
theorem AP_new {ml ml' : List Int32} {tg tg' : Nat → Nat} {mn mn' x k : Nat} (h : AP ml tg mn x k ml' tg' mn') (hb : bitL ml k = false) : mn' = mn + 1 ∧ tg' = up tg mn x := by
  rcases h with ⟨e, _⟩ | ⟨_, _, e1, e2⟩
  · rw [hb] at e; exact absurd e (by decide)
  · exact ⟨e2, e1⟩
theorem AP_same {ml ml' : List Int32} {tg tg' : Nat → Nat} {mn mn' x k : Nat} (h : AP ml tg mn x k ml' tg' mn') (hb : bitL ml k = true) : ml' = ml ∧ tg' = tg ∧ mn' = mn := by
  rcases h with ⟨_, e⟩ | ⟨e, _⟩
  · exact e
  · rw [hb] at e; exact absurd e (by decide)
theorem AP_old {st : Nat → Nat → Nat} {s : Nat} {ml ml' : List Int32} {tg tg' : Nat → Nat} {mn mn' x k : Nat} (h : AP ml tg mn x k ml' tg' mn') (hb : bitL ml k = true) (q : QCl st s ml tg mn) : QCl st s ml' tg' mn' := by
  obtain ⟨rfl, rfl, rfl⟩ := AP_same h hb
  exact q
theorem AP_old2 {co n s k : Nat} {cm : Nat → Nat} {ml ml' : List Int32} {tg tg' : Nat → Nat} {mn mn' x : Nat} (h : AP ml tg mn x k ml' tg' mn') (hb : bitL ml k = true) (q : QM' co n cm s ml k) : QM' co n cm s ml' (k + 1) := by
  obtain ⟨rfl, rfl, rfl⟩ := AP_same h hb
  exact QM_y q hb
set_option maxRecDepth 100000 in
set_option maxHeartbeats 4000000 in
theorem c_X3_weigh_atx {X : jX} (hs : X.1.stackTraces = false) {d : Nat} (hd : 0 ≤ d) {ql : List Int32} {qt : Nat → Nat} {pw : Nat → Nat} {qm : Nat} {pc : Nat} {qn : Nat} {w : List jC} (hR : QM ql qt pw qm pc qn w) (hy0 : qn ≤ 7) (hy1 : 1 ≤ pc) (hy2 : pc ≤ 3) {kc ks : Nat} : jMet X mX3_weigh d kc ks [.ref 14] w (pI (fun v => v = nI (pc ^ qn)) (fun w' => ∃ (pw' : Nat → Nat), QM ql qt pw' qm pc qn w' ∧ FB 14 18 w w' ∧ (∀ p, p < qn → pw' p = pc ^ p))) := by
  refine jMet_of hs (by decide +kernel) (Nat.le_of_ble_eq_true rfl) (L := [some (.ref 14), none, none]) rfl ?_
  obtain ⟨h14, h15, h16, h17, h18, hz17⟩ := hR
  have hF : FB 14 18 w w := FB.rf
  refine J_iconst (pc := 0) (v := nI 1) dX3_weigh_0 (by decide) ?_
  refine J_istore_n (pc := 1) dX3_weigh_1 rfl (by decide) rfl ?_
  show J X mX3_weigh d kc ks 2 [some (.ref 14), some (.int (nI 1)), none] [] w _
  refine J_iconst (pc := 2) (v := nI 0) dX3_weigh_2 (by decide) ?_
  refine J_istore_n (pc := 3) dX3_weigh_3 rfl (by decide) rfl ?_
  show J X mX3_weigh d kc ks 4 [some (.ref 14), some (.int (nI 1)), some (.int (nI 0))] [] w _
  have lp4_1 : ∀ (fuel : Nat) (w2 : List jC) (pw_4 : Nat → Nat) (c2 : Nat), (QM ql qt pw_4 qm pc qn w2) → (FB 14 18 w w2) → (∀ p, p < c2 → pw_4 p = pc ^ p) → (c2 ≤ qn) → (qn - c2 < fuel) → J X mX3_weigh d kc ks 4 [some (.ref 14), some (.int (nI (pc ^ c2))), some (.int (nI c2))] [] w2 (pI (fun v => v = nI (pc ^ qn)) (fun w' => ∃ (pw' : Nat → Nat), QM ql qt pw' qm pc qn w' ∧ FB 14 18 w w' ∧ (∀ p, p < qn → pw' p = pc ^ p))) := by
    intro fuellp4_1
    induction fuellp4_1 with
    | zero => intros; omega
    | succ fuellp4_1 ihlp4_1 =>
      intro w2 pw_4 c2 hR3 hF4 hv4_0 hv4_1 hf5
      obtain ⟨h14_6, h15_6, h16_6, h17_6, h18_6, hz17_6⟩ := hR3
      refine J_iload_n (pc := 4) dX3_weigh_4 rfl rfl ?_
      refine J_aload_n (pc := 5) dX3_weigh_5 rfl rfl rfl ?_
      refine J_get (pc := 6) (k := 3) dX3_weigh_6 kC4 (by decide) ff_X3_30 h14_6 rfl ?_
      refine J_icmp_geN (pc := 9) (tgt := 32) dX3_weigh_9 (by decide) (by omega) (by omega) (fun ht7 => ?_) (fun hf8 => ?_)
      · refine J_iload_n (pc := 32) dX3_weigh_32 rfl rfl ?_
        exact J_iret (pc := 33) dX3_weigh_33 rfl ⟨(congrArg nI (by rw [show c2 = qn by omega])), ⟨pw_4, ⟨h14_6, h15_6, h16_6, h17_6, h18_6, hz17_6⟩, hF4, (by exact fun p hp => hv4_0 p (by omega))⟩⟩
      · refine J_aload_n (pc := 12) dX3_weigh_12 rfl rfl rfl ?_
        refine J_get (pc := 13) (k := 1) dX3_weigh_13 kC4 (by decide) ff_X3_22 h14_6 rfl ?_
        refine J_iload_n (pc := 16) dX3_weigh_16 rfl rfl ?_
        refine J_iload_n (pc := 17) dX3_weigh_17 rfl rfl ?_
        refine J_iastF (pc := 18) dX3_weigh_18 h18_6 (by omega) (by decide) (fun w9 hln9 hc9 hne9 => ?_)
        have h14_9 := (hne9 14 (by decide)).trans h14_6
        have h15_9 := (hne9 15 (by decide)).trans h15_6
        have h16_9 := (hne9 16 (by decide)).trans h16_6
        have h17_9 := (hne9 17 (by decide)).trans h17_6
        have hF9 := hF4.st hln9 hne9 (by decide)
        refine J_iload_n (pc := 19) dX3_weigh_19 rfl rfl ?_
        refine J_aload_n (pc := 20) dX3_weigh_20 rfl rfl rfl ?_
        refine J_get (pc := 21) (k := 2) dX3_weigh_21 kC4 (by decide) ff_X3_26 h14_9 rfl ?_
        refine J_imulN (pc := 24) dX3_weigh_24 ?_
        refine J_istore_n (pc := 25) dX3_weigh_25 rfl (by decide) rfl ?_
        show J X mX3_weigh d kc ks 26 [some (.ref 14), some (.int (nI ((pc ^ c2) * pc))), some (.int (nI c2))] [] w9 _
        refine J_iincN (pc := 26) (b := 1) dX3_weigh_26 rfl (by decide) (by decide) rfl ?_
        show J X mX3_weigh d kc ks 29 [some (.ref 14), some (.int (nI ((pc ^ c2) * pc))), some (.int (nI (c2 + 1)))] [] w9 _
        refine J_goto (pc := 29) (tgt := 4) dX3_weigh_29 (by decide) ?_
        exact J_sub (L' := [some (.ref 14), some (.int (nI (pc ^ (c2 + 1)))), some (.int (nI (c2 + 1)))]) ⟨rfl, ⟨(congrArg (fun z => some (Value.int (nI z))) (show (pc ^ c2) * pc = pc ^ (c2 + 1) by rw [Nat.pow_succ])), ⟨rfl, trivial⟩⟩⟩ (ihlp4_1 w9 (up pw_4 c2 (pc ^ c2)) (c2 + 1) ⟨h14_9, h15_9, h16_9, h17_9, hc9, hz17_6⟩ hF9 (by intro p hp; by_cases e : p = c2; (rw [e]; exact up_s _ _ _); (rw [up_n e]; exact hv4_0 p (by omega))) (by first | assumption | omega) (by omega))
  exact J_sub (L' := [some (.ref 14), some (.int (nI (pc ^ 0))), some (.int (nI 0))]) ⟨rfl, ⟨(congrArg (fun z => some (Value.int (nI z))) (show 1 = pc ^ 0 by rfl)), ⟨rfl, trivial⟩⟩⟩ (lp4_1 _ w pw 0 ⟨h14, h15, h16, h17, h18, hz17⟩ hF (by intro p hp; omega) (by first | assumption | omega) (Nat.lt_succ_self _))
set_option maxRecDepth 100000 in
set_option maxHeartbeats 4000000 in
theorem c_X3_madeBy_atx {X : jX} (hs : X.1.stackTraces = false) {d : Nat} (hd : 1 ≤ d) {ql : List Int32} {qt : Nat → Nat} {pw : Nat → Nat} {qm : Nat} {pc : Nat} {qn : Nat} {w : List jC} (hR : QM ql qt pw qm pc qn w) (x : Nat) (k : Nat) (hy0 : qn ≤ 7) (hy1 : Mv qn x) (hy2 : 1 ≤ pc) (hy3 : pc ≤ 3) (hy4 : k < 2187) (hy5 : ∀ p, p < qn → pw p = pc ^ p) {kc ks : Nat} : jMet X mX3_madeBy d kc ks [.ref 14, .int (nI x), .int (nI k)] w (pI (fun v => v = nI (cS pc qn (d8 x) k)) (fun w' => w' = w)) := by
  refine jMet_of hs (by decide +kernel) (Nat.le_of_ble_eq_true rfl) (L := [some (.ref 14), some (.int (nI x)), some (.int (nI k)), none, none, none, none]) rfl ?_
  have hdm : 0 ≤ d - 1 := by omega
  have hdp : d - 1 + 1 ≤ d := by omega
  obtain ⟨h14, h15, h16, h17, h18, hz17⟩ := hR
  have hF : FB 14 18 w w := FB.rf
  refine J_iconst (pc := 0) (v := nI 0) dX3_madeBy_0 (by decide) ?_
  refine J_istore_n (pc := 1) dX3_madeBy_1 rfl (by decide) rfl ?_
  show J X mX3_madeBy d kc ks 2 [some (.ref 14), some (.int (nI x)), some (.int (nI k)), some (.int (nI 0)), none, none, none] [] w _
  refine J_iload_n (pc := 2) dX3_madeBy_2 rfl rfl ?_
  refine J_istore (pc := 3) dX3_madeBy_3 (by decide) rfl ?_
  show J X mX3_madeBy d kc ks 5 [some (.ref 14), some (.int (nI x)), some (.int (nI k)), some (.int (nI 0)), some (.int (nI k)), none, none] [] w _
  refine J_iconst (pc := 5) (v := nI 0) dX3_madeBy_5 (by decide) ?_
  refine J_istore (pc := 6) dX3_madeBy_6 (by decide) rfl ?_
  show J X mX3_madeBy d kc ks 8 [some (.ref 14), some (.int (nI x)), some (.int (nI k)), some (.int (nI 0)), some (.int (nI k)), some (.int (nI 0)), none] [] w _
  have lp8_1 : ∀ (fuel : Nat) (c5 : Nat), (c5 ≤ qn) → (qn - c5 < fuel) → J X mX3_madeBy d kc ks 8 [some (.ref 14), some (.int (nI x)), some (.int (nI k)), some (.int (nI (sm (fun p => k / pc ^ p % pc * pc ^ d8 x p) c5))), some (.int (nI (k / pc ^ c5))), some (.int (nI c5)), none] [] w (pI (fun v => v = nI (cS pc qn (d8 x) k)) (fun w' => w' = w)) := by
    intro fuellp8_1
    induction fuellp8_1 with
    | zero => intros; omega
    | succ fuellp8_1 ihlp8_1 =>
      intro c5 hv8_0 hf2
      refine J_iload (pc := 8) dX3_madeBy_8 rfl ?_
      refine J_aload_n (pc := 10) dX3_madeBy_10 rfl rfl rfl ?_
      refine J_get (pc := 11) (k := 3) dX3_madeBy_11 kC4 (by decide) ff_X3_30 h14 rfl ?_
      refine J_icmp_geN (pc := 14) (tgt := 63) dX3_madeBy_14 (by decide) (by omega) (by omega) (fun ht3 => ?_) (fun hf4 => ?_)
      · refine J_iload_n (pc := 63) dX3_madeBy_63 rfl rfl ?_
        exact J_iret (pc := 64) dX3_madeBy_64 rfl ⟨(congrArg nI (by rw [show c5 = qn by omega]; rfl)), rfl⟩
      · have hkd := Nat.div_le_self k (pc ^ c5)
        have hgn := hy1.2.1.1 c5 (by omega)
        refine J_iload (pc := 17) dX3_madeBy_17 rfl ?_
        refine J_aload_n (pc := 19) dX3_madeBy_19 rfl rfl rfl ?_
        refine J_get (pc := 20) (k := 2) dX3_madeBy_20 kC4 (by decide) ff_X3_26 h14 rfl ?_
        refine J_callSN0 (pc := 23) (M := mX3_madeBy) (as := [.int (nI (k / pc ^ c5)), .int (nI pc)]) dX3_madeBy_23 fw_X6_quotient fl_X3_62 fs_X6_quotient rfl (c_X6_quotient_atx hs (d := d - 1) (Nat.le_trans (by decide) hdm) (w := w) (k / pc ^ c5) pc (by omega) (by omega) (by omega) (kc := 0) (ks := 0)) hdp (st := []) (Nat.le_of_ble_eq_true rfl) rfl (kr_P fun v5 hv5 => ?_) kx_I
        subst hv5
        refine J_istore (pc := 26) dX3_madeBy_26 (by decide) rfl ?_
        show J X mX3_madeBy d kc ks 28 [some (.ref 14), some (.int (nI x)), some (.int (nI k)), some (.int (nI (sm (fun p => k / pc ^ p % pc * pc ^ d8 x p) c5))), some (.int (nI (k / pc ^ c5))), some (.int (nI c5)), some (.int (nI ((k / pc ^ c5) / pc)))] [] w _
        refine J_iload_n (pc := 28) dX3_madeBy_28 rfl rfl ?_
        refine J_iload (pc := 29) dX3_madeBy_29 rfl ?_
        refine J_iload (pc := 31) dX3_madeBy_31 rfl ?_
        refine J_aload_n (pc := 33) dX3_madeBy_33 rfl rfl rfl ?_
        refine J_get (pc := 34) (k := 2) dX3_madeBy_34 kC4 (by decide) ff_X3_26 h14 rfl ?_
        refine J_imulN (pc := 37) dX3_madeBy_37 ?_
        refine J_isubN (pc := 38) dX3_madeBy_38 (by exact Nat.div_mul_le_self _ _) ?_
        refine J_aload_n (pc := 39) dX3_madeBy_39 rfl rfl rfl ?_
        refine J_get (pc := 40) (k := 1) dX3_madeBy_40 kC4 (by decide) ff_X3_22 h14 rfl ?_
        refine J_iload_n (pc := 43) dX3_madeBy_43 rfl rfl ?_
        refine J_iload (pc := 44) dX3_madeBy_44 rfl ?_
        refine J_callS0 (pc := 46) (M := mX3_madeBy) (as := [.int (nI x), .int (nI c5)]) dX3_madeBy_46 fw_X2_goal fl_X3_65 fs_X2_goal rfl (c_X2_goal_atx hs (d := d - 1) (Nat.le_trans (by decide) hdm) (w := w) x c5 (by exact hy1.1) (by omega) (kc := 0) (ks := 0)) hdp (st := [.ref 18, .int (nI ((k / pc ^ c5) - (((k / pc ^ c5) / pc) * pc))), .int (nI (sm (fun p => k / pc ^ p % pc * pc ^ d8 x p) c5))]) (Nat.le_of_ble_eq_true rfl) rfl (kr_P fun v6 hv6 => ?_) kx_I
        subst hv6
        have hq7 := d8_lt x c5
        refine J_ialdF (pc := 49) dX3_madeBy_49 h18 (by omega) (by decide) ?_
        refine J_imulN (pc := 50) dX3_madeBy_50 ?_
        refine J_iaddN (pc := 51) dX3_madeBy_51 ?_
        refine J_istore_n (pc := 52) dX3_madeBy_52 rfl (by decide) rfl ?_
        show J X mX3_madeBy d kc ks 53 [some (.ref 14), some (.int (nI x)), some (.int (nI k)), some (.int (nI ((sm (fun p => k / pc ^ p % pc * pc ^ d8 x p) c5) + (((k / pc ^ c5) - (((k / pc ^ c5) / pc) * pc)) * (pw (d8 x c5)))))), some (.int (nI (k / pc ^ c5))), some (.int (nI c5)), some (.int (nI ((k / pc ^ c5) / pc)))] [] w _
        refine J_iload (pc := 53) dX3_madeBy_53 rfl ?_
        refine J_istore (pc := 55) dX3_madeBy_55 (by decide) rfl ?_
        show J X mX3_madeBy d kc ks 57 [some (.ref 14), some (.int (nI x)), some (.int (nI k)), some (.int (nI ((sm (fun p => k / pc ^ p % pc * pc ^ d8 x p) c5) + (((k / pc ^ c5) - (((k / pc ^ c5) / pc) * pc)) * (pw (d8 x c5)))))), some (.int (nI ((k / pc ^ c5) / pc))), some (.int (nI c5)), some (.int (nI ((k / pc ^ c5) / pc)))] [] w _
        refine J_iincN (pc := 57) (b := 1) dX3_madeBy_57 rfl (by decide) (by decide) rfl ?_
        show J X mX3_madeBy d kc ks 60 [some (.ref 14), some (.int (nI x)), some (.int (nI k)), some (.int (nI ((sm (fun p => k / pc ^ p % pc * pc ^ d8 x p) c5) + (((k / pc ^ c5) - (((k / pc ^ c5) / pc) * pc)) * (pw (d8 x c5)))))), some (.int (nI ((k / pc ^ c5) / pc))), some (.int (nI (c5 + 1))), some (.int (nI ((k / pc ^ c5) / pc)))] [] w _
        refine J_goto (pc := 60) (tgt := 8) dX3_madeBy_60 (by decide) ?_
        exact J_sub (L' := [some (.ref 14), some (.int (nI x)), some (.int (nI k)), some (.int (nI (sm (fun p => k / pc ^ p % pc * pc ^ d8 x p) (c5 + 1)))), some (.int (nI (k / pc ^ (c5 + 1)))), some (.int (nI (c5 + 1))), none]) ⟨rfl, ⟨rfl, ⟨rfl, ⟨(congrArg (fun z => some (Value.int (nI z))) (show (sm (fun p => k / pc ^ p % pc * pc ^ d8 x p) c5) + (((k / pc ^ c5) - (((k / pc ^ c5) / pc) * pc)) * (pw (d8 x c5))) = sm (fun p => k / pc ^ p % pc * pc ^ d8 x p) (c5 + 1) by rw [md_s, hy5 _ hgn]; rfl)), ⟨(congrArg (fun z => some (Value.int (nI z))) (show (k / pc ^ c5) / pc = k / pc ^ (c5 + 1) by exact dv_s)), ⟨rfl, trivial⟩⟩⟩⟩⟩⟩ (ihlp8_1 (c5 + 1) (by first | assumption | omega) (by omega))
  exact J_sub (L' := [some (.ref 14), some (.int (nI x)), some (.int (nI k)), some (.int (nI (sm (fun p => k / pc ^ p % pc * pc ^ d8 x p) 0))), some (.int (nI (k / pc ^ 0))), some (.int (nI 0)), none]) ⟨rfl, ⟨rfl, ⟨rfl, ⟨(congrArg (fun z => some (Value.int (nI z))) (show 0 = sm (fun p => k / pc ^ p % pc * pc ^ d8 x p) 0 by rfl)), ⟨(congrArg (fun z => some (Value.int (nI z))) (show k = k / pc ^ 0 by rw [Nat.pow_zero, Nat.div_one])), ⟨rfl, trivial⟩⟩⟩⟩⟩⟩ (lp8_1 _ 0 (by first | assumption | omega) (Nat.lt_succ_self _))
set_option maxRecDepth 100000 in
set_option maxHeartbeats 4000000 in
theorem c_X3_spread_atx {X : jX} (hs : X.1.stackTraces = false) {d : Nat} (hd : 2 ≤ d) {ql : List Int32} {qt : Nat → Nat} {pw : Nat → Nat} {qm : Nat} {pc : Nat} {qn : Nat} {w : List jC} (hR : QM ql qt pw qm pc qn w) {cm : Nat → Nat} (h1 : w[1]? = some (aF 6 cm)) (s : Nat) (hy0 : 2 ≤ qn) (hy1 : qn ≤ 7) (hy2 : 1 ≤ pc) (hy3 : pc ≤ 3) (hy4 : ∀ p, p < qn → pw p = pc ^ p) (hy5 : FQ (pc ^ qn) ql qt qm) (hy6 : ∀ c, c < 6 → Mv qn (cm c)) (hy7 : s < 64) (hy8 : 1 ≤ qm) (hy9 : QCl (fun c => cS pc qn (d8 (cm c))) s ql qt (qm - 1)) {kc ks : Nat} : jMet X mX3_spread d kc ks [.ref 14, .ref 1, .int (nI s)] w (pV (fun w' => ∃ (ql' : List Int32), ∃ (qt' : Nat → Nat), ∃ (qm' : Nat), QM ql' qt' pw qm' pc qn w' ∧ FB 14 18 w w' ∧ (FQ (pc ^ qn) ql' qt' qm') ∧ (QCl (fun c => cS pc qn (d8 (cm c))) s ql' qt' qm') ∧ (QGl (pc ^ qn) (fun c => cS pc qn (d8 (cm c))) s ql ql'))) := by
  refine jMet_of hs (by decide +kernel) (Nat.le_of_ble_eq_true rfl) (L := [some (.ref 14), some (.ref 1), some (.int (nI s)), none, none, none]) rfl ?_
  have hdm : 1 ≤ d - 1 := by omega
  have hdp : d - 1 + 1 ≤ d := by omega
  obtain ⟨h14, h15, h16, h17, h18, hz17⟩ := hR
  have hF : FB 14 18 w w := FB.rf
  have hN := p3_7 hy2 hy3 hy1
  have hqm := FQ_le hy5
  refine J_aload_n (pc := 0) dX3_spread_0 rfl rfl rfl ?_
  refine J_get (pc := 1) (k := 0) dX3_spread_1 kC4 (by decide) ff_X3_14 h14 rfl ?_
  refine J_callV0 (pc := 4) (M := mX3_spread) (as := []) dX3_spread_4 fw_X1_length fl_X3_48 fm_X1_length fe_X1_length h15 (by decide) rfl rfl rfl (c_X1_length_at15x hs (d := d - 1) (Nat.le_trans (by decide) hdm) (w := w) (ql := ql) (qt := qt) (pw := pw) (qm := qm) (pc := pc) (qn := qn) ⟨h14, h15, h16, h17, h18, hz17⟩  (kc := 0) (ks := 0)) hdp (st := []) (Nat.le_of_ble_eq_true rfl) rfl (kr_P fun v1 hv1 => ?_) kx_I
  subst hv1
  refine J_iconst (pc := 7) (v := nI 1) dX3_spread_7 (by decide) ?_
  refine J_isubN (pc := 8) dX3_spread_8 (by omega) ?_
  refine J_istore_n (pc := 9) dX3_spread_9 rfl (by decide) rfl ?_
  show J X mX3_spread d kc ks 10 [some (.ref 14), some (.ref 1), some (.int (nI s)), some (.int (nI (qm - 1))), none, none] [] w _
  have lp10_2 : ∀ (fuel : Nat) (w3 : List jC) (ql_10 : List Int32) (qt_10 : Nat → Nat) (qm_10 : Nat) (c3 : Nat), (QM ql_10 qt_10 pw qm_10 pc qn w3) → (FB 14 18 w w3) → (FQ (pc ^ qn) ql_10 qt_10 qm_10) → (QCl (fun c => cS pc qn (d8 (cm c))) s ql_10 qt_10 c3) → (QGl (pc ^ qn) (fun c => cS pc qn (d8 (cm c))) s ql ql_10) → (c3 ≤ qm_10) → (2187 - c3 < fuel) → J X mX3_spread d kc ks 10 [some (.ref 14), some (.ref 1), some (.int (nI s)), some (.int (nI c3)), none, none] [] w3 (pV (fun w' => ∃ (ql' : List Int32), ∃ (qt' : Nat → Nat), ∃ (qm' : Nat), QM ql' qt' pw qm' pc qn w' ∧ FB 14 18 w w' ∧ (FQ (pc ^ qn) ql' qt' qm') ∧ (QCl (fun c => cS pc qn (d8 (cm c))) s ql' qt' qm') ∧ (QGl (pc ^ qn) (fun c => cS pc qn (d8 (cm c))) s ql ql'))) := by
    intro fuellp10_2
    induction fuellp10_2 with
    | zero => intros; omega
    | succ fuellp10_2 ihlp10_2 =>
      intro w3 ql_10 qt_10 qm_10 c3 hR4 hF5 hv10_0 hv10_1 hv10_2 hv10_3 hf6
      obtain ⟨h14_7, h15_7, h16_7, h17_7, h18_7, hz17_7⟩ := hR4
      have h1_7 := (hF5.2 1 (by decide)).trans h1
      refine J_iload_n (pc := 10) dX3_spread_10 rfl rfl ?_
      have hmf := FQ_le hv10_0
      refine J_sipush (pc := 11) (v := nI 2187) dX3_spread_11 (by decide) ?_
      refine J_icmp_geN (pc := 14) (tgt := 89) dX3_spread_14 (by decide) (by omega) (by omega) (fun ht8 => ?_) (fun hf9 => ?_)
      · exact J_vret (pc := 89) dX3_spread_89 rfl (⟨ql_10, qt_10, qm_10, ⟨h14_7, h15_7, h16_7, h17_7, h18_7, hz17_7⟩, hF5, (by exact hv10_0), (by exact fun i hi => hv10_1 i (by have := FQ_le hv10_0; omega)), (by exact hv10_2)⟩)
      · refine J_iload_n (pc := 17) dX3_spread_17 rfl rfl ?_
        refine J_aload_n (pc := 18) dX3_spread_18 rfl rfl rfl ?_
        refine J_get (pc := 19) (k := 0) dX3_spread_19 kC4 (by decide) ff_X3_14 h14_7 rfl ?_
        refine J_callV0 (pc := 22) (M := mX3_spread) (as := []) dX3_spread_22 fw_X1_length fl_X3_48 fm_X1_length fe_X1_length h15_7 (by decide) rfl rfl rfl (c_X1_length_at15x hs (d := d - 1) (Nat.le_trans (by decide) hdm) (w := w3) (ql := ql_10) (qt := qt_10) (pw := pw) (qm := qm_10) (pc := pc) (qn := qn) ⟨h14_7, h15_7, h16_7, h17_7, h18_7, hz17_7⟩  (kc := 0) (ks := 0)) hdp (st := [.int (nI c3)]) (Nat.le_of_ble_eq_true rfl) rfl (kr_P fun v10 hv10 => ?_) kx_I
        subst hv10
        refine J_icmp_geN (pc := 25) (tgt := 89) dX3_spread_25 (by decide) (by omega) (by omega) (fun ht11 => ?_) (fun hf12 => ?_)
        · exact J_vret (pc := 89) dX3_spread_89 rfl (⟨ql_10, qt_10, qm_10, ⟨h14_7, h15_7, h16_7, h17_7, h18_7, hz17_7⟩, hF5, (by exact hv10_0), (by exact fun i hi => hv10_1 i (by have := FQ_le hv10_0; omega)), (by exact hv10_2)⟩)
        · refine J_iconst (pc := 28) (v := nI 0) dX3_spread_28 (by decide) ?_
          refine J_istore (pc := 29) dX3_spread_29 (by decide) rfl ?_
          show J X mX3_spread d kc ks 31 [some (.ref 14), some (.ref 1), some (.int (nI s)), some (.int (nI c3)), some (.int (nI 0)), none] [] w3 _
          have lp31_13 : ∀ (fuel : Nat) (w14 : List jC) (ql_31 : List Int32) (qt_31 : Nat → Nat) (qm_31 : Nat) (c4 : Nat), (QM ql_31 qt_31 pw qm_31 pc qn w14) → (FB 14 18 w w14) → (FQ (pc ^ qn) ql_31 qt_31 qm_31) → (QCl (fun c => cS pc qn (d8 (cm c))) s ql_31 qt_31 c3) → (QGl (pc ^ qn) (fun c => cS pc qn (d8 (cm c))) s ql ql_31) → (QDl (fun c => cS pc qn (d8 (cm c))) s ql_31 (qt_31 c3) c4) → (c3 < qm_31) → (c4 ≤ 6) → (6 - c4 < fuel) → J X mX3_spread d kc ks 31 [some (.ref 14), some (.ref 1), some (.int (nI s)), some (.int (nI c3)), some (.int (nI c4)), none] [] w14 (pV (fun w' => ∃ (ql' : List Int32), ∃ (qt' : Nat → Nat), ∃ (qm' : Nat), QM ql' qt' pw qm' pc qn w' ∧ FB 14 18 w w' ∧ (FQ (pc ^ qn) ql' qt' qm') ∧ (QCl (fun c => cS pc qn (d8 (cm c))) s ql' qt' qm') ∧ (QGl (pc ^ qn) (fun c => cS pc qn (d8 (cm c))) s ql ql'))) := by
            intro fuellp31_13
            induction fuellp31_13 with
            | zero => intros; omega
            | succ fuellp31_13 ihlp31_13 =>
              intro w14 ql_31 qt_31 qm_31 c4 hR15 hF16 hv31_0 hv31_1 hv31_2 hv31_3 hv31_4 hv31_5 hf17
              obtain ⟨h14_18, h15_18, h16_18, h17_18, h18_18, hz17_18⟩ := hR15
              have h1_18 := (hF16.2 1 (by decide)).trans h1
              refine J_iload (pc := 31) dX3_spread_31 rfl ?_
              refine J_aload_n (pc := 33) dX3_spread_33 rfl rfl rfl ?_
              refine J_alen (pc := 34) (n := nI 6) dX3_spread_34 h1_18 (by decide) (by rw [List.length_map, List.length_range]; rfl) ?_
              refine J_icmp_geN (pc := 35) (tgt := 83) dX3_spread_35 (by decide) (by omega) (by omega) (fun ht19 => ?_) (fun hf20 => ?_)
              · refine J_iincN (pc := 83) (b := 1) dX3_spread_83 rfl (by decide) (by decide) rfl ?_
                show J X mX3_spread d kc ks 86 [some (.ref 14), some (.ref 1), some (.int (nI s)), some (.int (nI (c3 + 1))), some (.int (nI c4)), none] [] w14 _
                refine J_goto (pc := 86) (tgt := 10) dX3_spread_86 (by decide) ?_
                exact J_sub (L' := [some (.ref 14), some (.ref 1), some (.int (nI s)), some (.int (nI (c3 + 1))), none, none]) ⟨rfl, ⟨rfl, ⟨rfl, ⟨rfl, trivial⟩⟩⟩⟩ (ihlp10_2 w14 ql_31 qt_31 qm_31 (c3 + 1) ⟨h14_18, h15_18, h16_18, h17_18, h18_18, hz17_18⟩ hF16 (by exact hv31_0) (by exact QCl_s hv31_1 hv31_3 (by omega)) (by exact hv31_2) (by omega) (by omega))
              · refine J_iload_n (pc := 38) dX3_spread_38 rfl rfl ?_
                refine J_iload (pc := 39) dX3_spread_39 rfl ?_
                refine J_callSN0 (pc := 41) (M := mX3_spread) (as := [.int (nI s), .int (nI c4)]) dX3_spread_41 fw_X6_has fl_X3_51 fs_X6_has rfl (c_X6_has_atx hs (d := d - 1) (Nat.le_trans (by decide) hdm) (w := w14) s c4 (by omega) (by omega) (kc := 0) (ks := 0)) hdp (st := []) (Nat.le_of_ble_eq_true rfl) rfl (kr_P fun v21 hv21 => ?_) kx_I
                rcases hv21 with ⟨rfl, hk21_0⟩ | ⟨rfl, hk21_0⟩
                · refine J_if_eqN (pc := 44) (tgt := 77) dX3_spread_44 (by decide) (by decide) (fun _ => ?_) (fun h => absurd h (by decide))
                  refine J_iincN (pc := 77) (b := 1) dX3_spread_77 rfl (by decide) (by decide) rfl ?_
                  show J X mX3_spread d kc ks 80 [some (.ref 14), some (.ref 1), some (.int (nI s)), some (.int (nI c3)), some (.int (nI (c4 + 1))), none] [] w14 _
                  refine J_goto (pc := 80) (tgt := 31) dX3_spread_80 (by decide) ?_
                  exact J_sub (L' := [some (.ref 14), some (.ref 1), some (.int (nI s)), some (.int (nI c3)), some (.int (nI (c4 + 1))), none]) ⟨rfl, ⟨rfl, ⟨rfl, ⟨rfl, ⟨rfl, trivial⟩⟩⟩⟩⟩ (ihlp31_13 w14 ql_31 qt_31 qm_31 (c4 + 1) ⟨h14_18, h15_18, h16_18, h17_18, h18_18, hz17_18⟩ hF16 (by first | exact hf1 | exact hv31_0) (by first | exact QCl_k hv31_1 (by omega) ⟨hf2, hf3, hf4⟩ | exact hv31_1) (by first | exact QGl_k hv31_2 hv31_0 (by omega) hf2 rfl (by omega) (by assumption) | exact hv31_2) (by first | exact QDl_k hv31_3 (by omega) ⟨hf2, hf3, hf4⟩ rfl | exact QDl_n hv31_3 (by assumption)) (by omega) (by first | assumption | omega) (by omega))
                · refine J_if_eqN (pc := 44) (tgt := 77) dX3_spread_44 (by decide) (by decide) (fun h => absurd h (by decide)) (fun _ => ?_)
                  have hcc := hy6 c4 (by omega)
                  have hmv := hv31_0.1 c3 (by omega)
                  have hq31 := FQ_le hv31_0
                  have hcs := cS_lt (co := pc) (n := qn) (k := qt_31 c3) hcc.2.1 hy2
                  refine J_aload_n (pc := 47) dX3_spread_47 rfl rfl rfl ?_
                  refine J_aload_n (pc := 48) dX3_spread_48 rfl rfl rfl ?_
                  refine J_iload (pc := 49) dX3_spread_49 rfl ?_
                  refine J_ialdF (pc := 51) dX3_spread_51 h1_18 (by omega) (by decide) ?_
                  refine J_aload_n (pc := 52) dX3_spread_52 rfl rfl rfl ?_
                  refine J_get (pc := 53) (k := 0) dX3_spread_53 kC4 (by decide) ff_X3_14 h14_18 rfl ?_
                  refine J_iload_n (pc := 56) dX3_spread_56 rfl rfl ?_
                  refine J_callV0 (pc := 57) (M := mX3_spread) (as := [.int (nI c3)]) dX3_spread_57 fw_X1_thing fl_X3_54 fm_X1_thing fe_X1_thing h15_18 (by decide) rfl rfl rfl (c_X1_thing_at15x hs (d := d - 1) (Nat.le_trans (by decide) hdm) (w := w14) (ql := ql_31) (qt := qt_31) (pw := pw) (qm := qm_31) (pc := pc) (qn := qn) ⟨h14_18, h15_18, h16_18, h17_18, h18_18, hz17_18⟩ c3 (by omega) (kc := 0) (ks := 0)) hdp (st := [.int (nI (cm c4)), .ref 14]) (Nat.le_of_ble_eq_true rfl) rfl (kr_P fun v22 hv22 => ?_) kx_I
                  subst hv22
                  refine J_callV0 (pc := 60) (M := mX3_spread) (as := [.int (nI (cm c4)), .int (nI (qt_31 c3))]) dX3_spread_60 fw_X3_madeBy fl_X3_58 fm_X3_madeBy fe_X3_madeBy h14_18 (by decide) rfl rfl rfl (c_X3_madeBy_atx hs (d := d - 1) (Nat.le_trans (by decide) hdm) (w := w14) (ql := ql_31) (qt := qt_31) (pw := pw) (qm := qm_31) (pc := pc) (qn := qn) ⟨h14_18, h15_18, h16_18, h17_18, h18_18, hz17_18⟩ (cm c4) (qt_31 c3) (by exact hy1) (by exact hcc) (by exact hy2) (by exact hy3) (by omega) (by exact hy4) (kc := 0) (ks := 0)) hdp (st := []) (Nat.le_of_ble_eq_true rfl) rfl (kr_P fun v23 hv23 => ?_) kx_I
                  subst hv23
                  refine J_istore (pc := 63) dX3_spread_63 (by decide) rfl ?_
                  show J X mX3_spread d kc ks 65 [some (.ref 14), some (.ref 1), some (.int (nI s)), some (.int (nI c3)), some (.int (nI c4)), some (.int (nI (cS pc qn (d8 (cm c4)) (qt_31 c3))))] [] w14 _
                  refine J_aload_n (pc := 65) dX3_spread_65 rfl rfl rfl ?_
                  refine J_get (pc := 66) (k := 0) dX3_spread_66 kC4 (by decide) ff_X3_14 h14_18 rfl ?_
                  refine J_iload (pc := 69) dX3_spread_69 rfl ?_
                  refine J_iload (pc := 71) dX3_spread_71 rfl ?_
                  refine J_callV0 (pc := 73) (M := mX3_spread) (as := [.int (nI (cS pc qn (d8 (cm c4)) (qt_31 c3))), .int (nI (cS pc qn (d8 (cm c4)) (qt_31 c3)))]) dX3_spread_73 fw_X1_add fl_X3_40 fm_X1_add fe_X1_add h15_18 (by decide) rfl rfl rfl (c_X1_add_at15x hs (d := d - 1) (Nat.le_trans (by decide) hdm) (w := w14) (ql := ql_31) (qt := qt_31) (pw := pw) (qm := qm_31) (pc := pc) (qn := qn) ⟨h14_18, h15_18, h16_18, h17_18, h18_18, hz17_18⟩ (cS pc qn (d8 (cm c4)) (qt_31 c3)) (cS pc qn (d8 (cm c4)) (qt_31 c3)) (by omega) (by exact FQ_room hv31_0 hN hcs) (by omega) (kc := 0) (ks := 0)) hdp (st := []) (Nat.le_of_ble_eq_true rfl) rfl (kr_I fun v24 w24 hv24 hw24 => ?_) kx_I
                  obtain ⟨ql24, qt24, qm24, hR24, hFc24, hp24_0⟩ := hw24
                  obtain ⟨h14_24, h15_24, h16_24, h17_24, h18_24, hz17_24⟩ := hR24
                  have h1_24 := (hFc24.2 1 (by decide)).trans h1_18
                  have hF24 := hF16.tr hFc24
                  obtain ⟨hf1, hf2, hf3, hf4⟩ := FQ_add hN hz17_18 hv31_0 hcs hp24_0
                  rcases hv24 with ⟨rfl, hk24_0⟩ | ⟨rfl, hk24_0⟩
                  · refine J_pop (pc := 76) dX3_spread_76 rfl ?_
                    refine J_iincN (pc := 77) (b := 1) dX3_spread_77 rfl (by decide) (by decide) rfl ?_
                    show J X mX3_spread d kc ks 80 [some (.ref 14), some (.ref 1), some (.int (nI s)), some (.int (nI c3)), some (.int (nI (c4 + 1))), some (.int (nI (cS pc qn (d8 (cm c4)) (qt_31 c3))))] [] w24 _
                    refine J_goto (pc := 80) (tgt := 31) dX3_spread_80 (by decide) ?_
                    exact J_sub (L' := [some (.ref 14), some (.ref 1), some (.int (nI s)), some (.int (nI c3)), some (.int (nI (c4 + 1))), none]) ⟨rfl, ⟨rfl, ⟨rfl, ⟨rfl, ⟨rfl, trivial⟩⟩⟩⟩⟩ (ihlp31_13 w24 ql24 qt24 qm24 (c4 + 1) ⟨h14_24, h15_24, h16_24, h17_24, h18_24, hz17_24⟩ hF24 (by first | exact hf1 | exact hv31_0) (by first | exact QCl_k hv31_1 (by omega) ⟨hf2, hf3, hf4⟩ | exact hv31_1) (by first | exact QGl_k hv31_2 hv31_0 (by omega) hf2 rfl (by omega) (by assumption) | exact hv31_2) (by first | exact QDl_k hv31_3 (by omega) ⟨hf2, hf3, hf4⟩ rfl | exact QDl_n hv31_3 (by assumption)) (by omega) (by first | assumption | omega) (by omega))
                  · refine J_pop (pc := 76) dX3_spread_76 rfl ?_
                    refine J_iincN (pc := 77) (b := 1) dX3_spread_77 rfl (by decide) (by decide) rfl ?_
                    show J X mX3_spread d kc ks 80 [some (.ref 14), some (.ref 1), some (.int (nI s)), some (.int (nI c3)), some (.int (nI (c4 + 1))), some (.int (nI (cS pc qn (d8 (cm c4)) (qt_31 c3))))] [] w24 _
                    refine J_goto (pc := 80) (tgt := 31) dX3_spread_80 (by decide) ?_
                    exact J_sub (L' := [some (.ref 14), some (.ref 1), some (.int (nI s)), some (.int (nI c3)), some (.int (nI (c4 + 1))), none]) ⟨rfl, ⟨rfl, ⟨rfl, ⟨rfl, ⟨rfl, trivial⟩⟩⟩⟩⟩ (ihlp31_13 w24 ql24 qt24 qm24 (c4 + 1) ⟨h14_24, h15_24, h16_24, h17_24, h18_24, hz17_24⟩ hF24 (by first | exact hf1 | exact hv31_0) (by first | exact QCl_k hv31_1 (by omega) ⟨hf2, hf3, hf4⟩ | exact hv31_1) (by first | exact QGl_k hv31_2 hv31_0 (by omega) hf2 rfl (by omega) (by assumption) | exact hv31_2) (by first | exact QDl_k hv31_3 (by omega) ⟨hf2, hf3, hf4⟩ rfl | exact QDl_n hv31_3 (by assumption)) (by omega) (by first | assumption | omega) (by omega))
          exact J_sub (L' := [some (.ref 14), some (.ref 1), some (.int (nI s)), some (.int (nI c3)), some (.int (nI 0)), none]) ⟨rfl, ⟨rfl, ⟨rfl, ⟨rfl, ⟨rfl, trivial⟩⟩⟩⟩⟩ (lp31_13 _ w3 ql_10 qt_10 qm_10 0 ⟨h14_7, h15_7, h16_7, h17_7, h18_7, hz17_7⟩ hF5 (by exact hv10_0) (by exact hv10_1) (by exact hv10_2) (by exact QDl_0) (by omega) (by first | assumption | omega) (Nat.lt_succ_self _))
  exact J_sub (L' := [some (.ref 14), some (.ref 1), some (.int (nI s)), some (.int (nI (qm - 1))), none, none]) ⟨rfl, ⟨rfl, ⟨rfl, ⟨rfl, trivial⟩⟩⟩⟩ (lp10_2 _ w ql qt qm (qm - 1) ⟨h14, h15, h16, h17, h18, hz17⟩ hF (by exact hy5) (by exact hy9) (by exact QGl_0) (by omega) (Nat.lt_succ_self _))
set_option maxRecDepth 100000 in
set_option maxHeartbeats 4000000 in
theorem c_X3_colouringsOneByOne_atx {X : jX} (hs : X.1.stackTraces = false) {d : Nat} (hd : 3 ≤ d) {ql : List Int32} {qt : Nat → Nat} {pw : Nat → Nat} {qm : Nat} {pc : Nat} {qn : Nat} {w : List jC} (hR : QM ql qt pw qm pc qn w) {cm : Nat → Nat} (h1 : w[1]? = some (aF 6 cm)) (s : Nat) (co : Nat) (n9 : Nat) (hy0 : 2 ≤ n9) (hy1 : n9 ≤ 7) (hy2 : 1 ≤ co) (hy3 : co ≤ 3) (hy4 : ∀ c, c < 6 → Mv n9 (cm c)) (hy5 : s < 64) {kc ks : Nat} : jMet X mX3_colouringsOneByOne d kc ks [.ref 14, .ref 1, .int (nI s), .int (nI co), .int (nI n9)] w (pI (fun v => v = nI (ct (fun k => ∀ j, j < k → ¬ Rc co n9 cm s j k) (co ^ n9))) (fun w' => ∃ (ql' : List Int32), ∃ (qt' : Nat → Nat), ∃ (pw' : Nat → Nat), ∃ (qm' : Nat), QM ql' qt' pw' qm' co n9 w' ∧ FB 14 18 w w' ∧ (qm' ≤ 2187))) := by
  refine jMet_of hs (by decide +kernel) (Nat.le_of_ble_eq_true rfl) (L := [some (.ref 14), some (.ref 1), some (.int (nI s)), some (.int (nI co)), some (.int (nI n9)), none, none, none]) rfl ?_
  have hdm : 2 ≤ d - 1 := by omega
  have hdp : d - 1 + 1 ≤ d := by omega
  obtain ⟨h14, h15, h16, h17, h18, hz17⟩ := hR
  have hF : FB 14 18 w w := FB.rf
  have hN := p3_7 hy2 hy3 hy1
  refine J_aload_n (pc := 0) dX3_colouringsOneByOne_0 rfl rfl rfl ?_
  refine J_iload_n (pc := 1) dX3_colouringsOneByOne_1 rfl rfl ?_
  refine J_putW (pc := 2) (k := 2) dX3_colouringsOneByOne_2 kC4 (by decide) ff_X3_26 (Or.inl rfl) ⟨rfl, rfl⟩ h14 (by show 2 < 4; decide) (fun w1 hln1 hw1 hne1 => ?_)
  have h14_1 : w1[14]? = some (.inr (4, [.ref 15, .ref 18, .int (nI co), .int (nI qn)])) := hw1
  have h15_1 := (hne1 15 (by decide)).trans h15
  have h16_1 := (hne1 16 (by decide)).trans h16
  have h17_1 := (hne1 17 (by decide)).trans h17
  have h18_1 := (hne1 18 (by decide)).trans h18
  have h1_1 := (hne1 1 (by decide)).trans h1
  have hF1 := hF.st hln1 hne1 (by decide)
  refine J_aload_n (pc := 5) dX3_colouringsOneByOne_5 rfl rfl rfl ?_
  refine J_iload (pc := 6) dX3_colouringsOneByOne_6 rfl ?_
  refine J_putW (pc := 8) (k := 3) dX3_colouringsOneByOne_8 kC4 (by decide) ff_X3_30 (Or.inl rfl) ⟨rfl, rfl⟩ h14_1 (by show 3 < 4; decide) (fun w2 hln2 hw2 hne2 => ?_)
  have h14_2 : w2[14]? = some (.inr (4, [.ref 15, .ref 18, .int (nI co), .int (nI n9)])) := hw2
  have h15_2 := (hne2 15 (by decide)).trans h15_1
  have h16_2 := (hne2 16 (by decide)).trans h16_1
  have h17_2 := (hne2 17 (by decide)).trans h17_1
  have h18_2 := (hne2 18 (by decide)).trans h18_1
  have h1_2 := (hne2 1 (by decide)).trans h1_1
  have hF2 := hF1.st hln2 hne2 (by decide)
  refine J_aload_n (pc := 11) dX3_colouringsOneByOne_11 rfl rfl rfl ?_
  refine J_callV0 (pc := 12) (M := mX3_colouringsOneByOne) (as := []) dX3_colouringsOneByOne_12 fw_X3_weigh fl_X3_33 fm_X3_weigh fe_X3_weigh h14_2 (by decide) rfl rfl rfl (c_X3_weigh_atx hs (d := d - 1) (Nat.le_trans (by decide) hdm) (w := w2) (ql := ql) (qt := qt) (pw := pw) (qm := qm) (pc := co) (qn := n9) ⟨h14_2, h15_2, h16_2, h17_2, h18_2, hz17⟩ (by exact hy1) (by exact hy2) (by exact hy3) (kc := 0) (ks := 0)) hdp (st := []) (Nat.le_of_ble_eq_true rfl) rfl (kr_I fun v3 w3 hv3 hw3 => ?_) kx_I
  obtain ⟨pw3, hR3, hFc3, hp3_0⟩ := hw3
  obtain ⟨h14_3, h15_3, h16_3, h17_3, h18_3, hz17_3⟩ := hR3
  have h1_3 := (hFc3.2 1 (by decide)).trans h1_2
  have hF3 := hF2.tr hFc3
  subst hv3
  have hwt := hp3_0
  refine J_istore (pc := 15) dX3_colouringsOneByOne_15 (by decide) rfl ?_
  show J X mX3_colouringsOneByOne d kc ks 17 [some (.ref 14), some (.ref 1), some (.int (nI s)), some (.int (nI co)), some (.int (nI n9)), some (.int (nI (co ^ n9))), none, none] [] w3 _
  refine J_iconst (pc := 17) (v := nI 0) dX3_colouringsOneByOne_17 (by decide) ?_
  refine J_istore (pc := 18) dX3_colouringsOneByOne_18 (by decide) rfl ?_
  show J X mX3_colouringsOneByOne d kc ks 20 [some (.ref 14), some (.ref 1), some (.int (nI s)), some (.int (nI co)), some (.int (nI n9)), some (.int (nI (co ^ n9))), some (.int (nI 0)), none] [] w3 _
  refine J_aload_n (pc := 20) dX3_colouringsOneByOne_20 rfl rfl rfl ?_
  refine J_get (pc := 21) (k := 0) dX3_colouringsOneByOne_21 kC4 (by decide) ff_X3_14 h14_3 rfl ?_
  refine J_callV0 (pc := 24) (M := mX3_colouringsOneByOne) (as := []) dX3_colouringsOneByOne_24 fw_X1_clear fl_X3_37 fm_X1_clear fe_X1_clear h15_3 (by decide) rfl rfl rfl (c_X1_clear_at15x hs (d := d - 1) (Nat.le_trans (by decide) hdm) (w := w3) (ql := ql) (qt := qt) (pw := pw3) (qm := qm) (pc := co) (qn := n9) ⟨h14_3, h15_3, h16_3, h17_3, h18_3, hz17_3⟩  (kc := 0) (ks := 0)) hdp (st := []) (Nat.le_of_ble_eq_true rfl) rfl (kr_V fun w4 hw4 => ?_) kx_V
  obtain ⟨hR4, hFc4⟩ := hw4
  obtain ⟨h14_4, h15_4, h16_4, h17_4, h18_4, hz17_4⟩ := hR4
  have h1_4 := (hFc4.2 1 (by decide)).trans h1_3
  have hF4 := hF3.tr hFc4
  refine J_iconst (pc := 27) (v := nI 0) dX3_colouringsOneByOne_27 (by decide) ?_
  refine J_istore (pc := 28) dX3_colouringsOneByOne_28 (by decide) rfl ?_
  show J X mX3_colouringsOneByOne d kc ks 30 [some (.ref 14), some (.ref 1), some (.int (nI s)), some (.int (nI co)), some (.int (nI n9)), some (.int (nI (co ^ n9))), some (.int (nI 0)), some (.int (nI 0))] [] w4 _
  have lp30_5 : ∀ (fuel : Nat) (w6 : List jC) (ql_30 : List Int32) (qt_30 : Nat → Nat) (qm_30 : Nat) (c7 : Nat), (QM ql_30 qt_30 pw3 qm_30 co n9 w6) → (FB 14 18 w w6) → (FQ (co ^ n9) ql_30 qt_30 qm_30) → (QCl (fun c => cS co n9 (d8 (cm c))) s ql_30 qt_30 qm_30) → (QM' co n9 cm s ql_30 c7) → (c7 ≤ co ^ n9) → (co ^ n9 - c7 < fuel) → J X mX3_colouringsOneByOne d kc ks 30 [some (.ref 14), some (.ref 1), some (.int (nI s)), some (.int (nI co)), some (.int (nI n9)), some (.int (nI (co ^ n9))), some (.int (nI (ct (fun k => ∀ j, j < k → ¬ Rc co n9 cm s j k) c7))), some (.int (nI c7))] [] w6 (pI (fun v => v = nI (ct (fun k => ∀ j, j < k → ¬ Rc co n9 cm s j k) (co ^ n9))) (fun w' => ∃ (ql' : List Int32), ∃ (qt' : Nat → Nat), ∃ (pw' : Nat → Nat), ∃ (qm' : Nat), QM ql' qt' pw' qm' co n9 w' ∧ FB 14 18 w w' ∧ (qm' ≤ 2187))) := by
    intro fuellp30_5
    induction fuellp30_5 with
    | zero => intros; omega
    | succ fuellp30_5 ihlp30_5 =>
      intro w6 ql_30 qt_30 qm_30 c7 hR7 hF8 hv30_0 hv30_1 hv30_2 hv30_3 hf9
      obtain ⟨h14_10, h15_10, h16_10, h17_10, h18_10, hz17_10⟩ := hR7
      have h1_10 := (hF8.2 1 (by decide)).trans h1
      refine J_iload (pc := 30) dX3_colouringsOneByOne_30 rfl ?_
      refine J_iload (pc := 32) dX3_colouringsOneByOne_32 rfl ?_
      refine J_icmp_geN (pc := 34) (tgt := 66) dX3_colouringsOneByOne_34 (by decide) (by omega) (by omega) (fun ht11 => ?_) (fun hf12 => ?_)
      · refine J_iload (pc := 66) dX3_colouringsOneByOne_66 rfl ?_
        exact J_iret (pc := 68) dX3_colouringsOneByOne_68 rfl ⟨(congrArg nI (by rw [show c7 = co ^ n9 by omega])), ⟨ql_30, qt_30, pw3, qm_30, ⟨h14_10, h15_10, h16_10, h17_10, h18_10, hz17_10⟩, hF8, (by have := FQ_le hv30_0; omega)⟩⟩
      · refine J_aload_n (pc := 37) dX3_colouringsOneByOne_37 rfl rfl rfl ?_
        refine J_get (pc := 38) (k := 0) dX3_colouringsOneByOne_38 kC4 (by decide) ff_X3_14 h14_10 rfl ?_
        refine J_iload (pc := 41) dX3_colouringsOneByOne_41 rfl ?_
        refine J_iload (pc := 43) dX3_colouringsOneByOne_43 rfl ?_
        refine J_callV0 (pc := 45) (M := mX3_colouringsOneByOne) (as := [.int (nI c7), .int (nI c7)]) dX3_colouringsOneByOne_45 fw_X1_add fl_X3_40 fm_X1_add fe_X1_add h15_10 (by decide) rfl rfl rfl (c_X1_add_at15x hs (d := d - 1) (Nat.le_trans (by decide) hdm) (w := w6) (ql := ql_30) (qt := qt_30) (pw := pw3) (qm := qm_30) (pc := co) (qn := n9) ⟨h14_10, h15_10, h16_10, h17_10, h18_10, hz17_10⟩ c7 c7 (by omega) (by exact FQ_room hv30_0 hN (by omega)) (by have := FQ_le hv30_0; omega) (kc := 0) (ks := 0)) hdp (st := []) (Nat.le_of_ble_eq_true rfl) rfl (kr_I fun v13 w13 hv13 hw13 => ?_) kx_I
        obtain ⟨ql13, qt13, qm13, hR13, hFc13, hp13_0⟩ := hw13
        obtain ⟨h14_13, h15_13, h16_13, h17_13, h18_13, hz17_13⟩ := hR13
        have h1_13 := (hFc13.2 1 (by decide)).trans h1_10
        have hF13 := hF8.tr hFc13
        have hap := hp13_0
        obtain ⟨hf1, hf2, hf3, hf4⟩ := FQ_add hN hz17_10 hv30_0 (by omega) hap
        rcases hv13 with ⟨rfl, hk13_0⟩ | ⟨rfl, hk13_0⟩
        · refine J_if_eqN (pc := 48) (tgt := 60) dX3_colouringsOneByOne_48 (by decide) (by decide) (fun _ => ?_) (fun h => absurd h (by decide))
          refine J_iincN (pc := 60) (b := 1) dX3_colouringsOneByOne_60 rfl (by decide) (by decide) rfl ?_
          show J X mX3_colouringsOneByOne d kc ks 63 [some (.ref 14), some (.ref 1), some (.int (nI s)), some (.int (nI co)), some (.int (nI n9)), some (.int (nI (co ^ n9))), some (.int (nI (ct (fun k => ∀ j, j < k → ¬ Rc co n9 cm s j k) c7))), some (.int (nI (c7 + 1)))] [] w13 _
          refine J_goto (pc := 63) (tgt := 30) dX3_colouringsOneByOne_63 (by decide) ?_
          exact J_sub (L' := [some (.ref 14), some (.ref 1), some (.int (nI s)), some (.int (nI co)), some (.int (nI n9)), some (.int (nI (co ^ n9))), some (.int (nI (ct (fun k => ∀ j, j < k → ¬ Rc co n9 cm s j k) (c7 + 1)))), some (.int (nI (c7 + 1)))]) ⟨rfl, ⟨rfl, ⟨rfl, ⟨rfl, ⟨rfl, ⟨rfl, ⟨(congrArg (fun z => some (Value.int (nI z))) (show ct (fun k => ∀ j, j < k → ¬ Rc co n9 cm s j k) c7 = ct (fun k => ∀ j, j < k → ¬ Rc co n9 cm s j k) (c7 + 1) by first | exact QM_c1 hv30_2 (by assumption) (by omega) | exact QM_c0 hv30_2 (by assumption))), ⟨rfl, trivial⟩⟩⟩⟩⟩⟩⟩⟩ (ihlp30_5 w13 ql13 qt13 qm13 (c7 + 1) ⟨h14_13, h15_13, h16_13, h17_13, h18_13, hz17_13⟩ hF13 (by first | exact hs1 | exact hf1) (by first | exact hs2 | exact AP_old hap (by assumption) hv30_1) (by first | exact QM_n hy2 hy1 hy4 hv30_2 (by omega) hf2 hs1 hs2 hs3 | exact AP_old2 hap (by assumption) hv30_2) (by first | assumption | omega) (by omega))
        · refine J_if_eqN (pc := 48) (tgt := 60) dX3_colouringsOneByOne_48 (by decide) (by decide) (fun h => absurd h (by decide)) (fun _ => ?_)
          refine J_iincN (pc := 51) (b := 1) dX3_colouringsOneByOne_51 rfl (by decide) (by decide) rfl ?_
          show J X mX3_colouringsOneByOne d kc ks 54 [some (.ref 14), some (.ref 1), some (.int (nI s)), some (.int (nI co)), some (.int (nI n9)), some (.int (nI (co ^ n9))), some (.int (nI ((ct (fun k => ∀ j, j < k → ¬ Rc co n9 cm s j k) c7) + 1))), some (.int (nI c7))] [] w13 _
          have hq1 := AP_new hap (by assumption)
          have hqc : QCl (fun c => cS co n9 (d8 (cm c))) s ql13 qt13 (qm13 - 1) := by rw [hq1.1, Nat.add_sub_cancel]; exact QCl_k hv30_1 (Nat.le_refl _) ⟨hf2, hf3, hf4⟩
          refine J_aload_n (pc := 54) dX3_colouringsOneByOne_54 rfl rfl rfl ?_
          refine J_aload_n (pc := 55) dX3_colouringsOneByOne_55 rfl rfl rfl ?_
          refine J_iload_n (pc := 56) dX3_colouringsOneByOne_56 rfl rfl ?_
          refine J_callV0 (pc := 57) (M := mX3_colouringsOneByOne) (as := [.ref 1, .int (nI s)]) dX3_colouringsOneByOne_57 fw_X3_spread fl_X3_44 fm_X3_spread fe_X3_spread h14_13 (by decide) rfl rfl rfl (c_X3_spread_atx hs (d := d - 1) (Nat.le_trans (by decide) hdm) (w := w13) (ql := ql13) (qt := qt13) (pw := pw3) (qm := qm13) (pc := co) (qn := n9) ⟨h14_13, h15_13, h16_13, h17_13, h18_13, hz17_13⟩ h1_13 s (by exact hy0) (by exact hy1) (by exact hy2) (by exact hy3) (by exact hwt) (by exact hf1) (by exact hy4) (by exact hy5) (by omega) (by exact hqc) (kc := 0) (ks := 0)) hdp (st := []) (Nat.le_of_ble_eq_true rfl) rfl (kr_V fun w14 hw14 => ?_) kx_V
          obtain ⟨ql14, qt14, qm14, hR14, hFc14, hp14_0, hp14_1, hp14_2⟩ := hw14
          obtain ⟨h14_14, h15_14, h16_14, h17_14, h18_14, hz17_14⟩ := hR14
          have h1_14 := (hFc14.2 1 (by decide)).trans h1_13
          have hF14 := hF13.tr hFc14
          have hs1 := hp14_0
          have hs2 := hp14_1
          have hs3 := hp14_2
          refine J_iincN (pc := 60) (b := 1) dX3_colouringsOneByOne_60 rfl (by decide) (by decide) rfl ?_
          show J X mX3_colouringsOneByOne d kc ks 63 [some (.ref 14), some (.ref 1), some (.int (nI s)), some (.int (nI co)), some (.int (nI n9)), some (.int (nI (co ^ n9))), some (.int (nI ((ct (fun k => ∀ j, j < k → ¬ Rc co n9 cm s j k) c7) + 1))), some (.int (nI (c7 + 1)))] [] w14 _
          refine J_goto (pc := 63) (tgt := 30) dX3_colouringsOneByOne_63 (by decide) ?_
          exact J_sub (L' := [some (.ref 14), some (.ref 1), some (.int (nI s)), some (.int (nI co)), some (.int (nI n9)), some (.int (nI (co ^ n9))), some (.int (nI (ct (fun k => ∀ j, j < k → ¬ Rc co n9 cm s j k) (c7 + 1)))), some (.int (nI (c7 + 1)))]) ⟨rfl, ⟨rfl, ⟨rfl, ⟨rfl, ⟨rfl, ⟨rfl, ⟨(congrArg (fun z => some (Value.int (nI z))) (show (ct (fun k => ∀ j, j < k → ¬ Rc co n9 cm s j k) c7) + 1 = ct (fun k => ∀ j, j < k → ¬ Rc co n9 cm s j k) (c7 + 1) by first | exact QM_c1 hv30_2 (by assumption) (by omega) | exact QM_c0 hv30_2 (by assumption))), ⟨rfl, trivial⟩⟩⟩⟩⟩⟩⟩⟩ (ihlp30_5 w14 ql14 qt14 qm14 (c7 + 1) ⟨h14_14, h15_14, h16_14, h17_14, h18_14, hz17_14⟩ hF14 (by first | exact hs1 | exact hf1) (by first | exact hs2 | exact AP_old hap (by assumption) hv30_1) (by first | exact QM_n hy2 hy1 hy4 hv30_2 (by omega) hf2 hs1 hs2 hs3 | exact AP_old2 hap (by assumption) hv30_2) (by first | assumption | omega) (by omega))
  exact J_sub (L' := [some (.ref 14), some (.ref 1), some (.int (nI s)), some (.int (nI co)), some (.int (nI n9)), some (.int (nI (co ^ n9))), some (.int (nI (ct (fun k => ∀ j, j < k → ¬ Rc co n9 cm s j k) 0))), some (.int (nI 0))]) ⟨rfl, ⟨rfl, ⟨rfl, ⟨rfl, ⟨rfl, ⟨rfl, ⟨(congrArg (fun z => some (Value.int (nI z))) (show 0 = ct (fun k => ∀ j, j < k → ¬ Rc co n9 cm s j k) 0 by rfl)), ⟨rfl, trivial⟩⟩⟩⟩⟩⟩⟩⟩ (lp30_5 _ w4 (List.replicate 69 0) qt 0 0 ⟨h14_4, h15_4, h16_4, h17_4, h18_4, hz17_4⟩ hF4 (by exact FQ_0) (by exact fun i hi => absurd hi (Nat.not_lt_zero i)) (by exact QM_0) (by first | assumption | omega) (Nat.lt_succ_self _))
end
section
/-! exact contracts of the class: espec15 -/
set_option maxRecDepth 100000 in
set_option maxHeartbeats 4000000 in
theorem c_X6_divides_atx {X : jX} (hs : X.1.stackTraces = false) {d : Nat} (hd : 0 ≤ d) {w : List jC} (a : Nat) (c : Nat) (hy0 : 1 ≤ a) (hy1 : a < 2 ^ 31) (hy2 : c < 2 ^ 31) (hy3 : c % a = 0) {kc ks : Nat} : jMet X mX6_divides d kc ks [.int (nI a), .int (nI c)] w (pI (fun v => v = nI 1) (fun w' => w' = w)) := by
  refine jMet_of hs (by decide +kernel) (Nat.le_of_ble_eq_true rfl) (L := [some (.int (nI a)), some (.int (nI c))]) rfl ?_
  refine J_iload_n (pc := 0) dX6_divides_0 rfl rfl ?_
  refine J_iconst (pc := 1) (v := nI 1) dX6_divides_1 (by decide) ?_
  refine J_icmp_ltN (pc := 2) (tgt := 15) dX6_divides_2 (by decide) (by omega) (by omega) (fun ht1 => ?_) (fun hf2 => ?_)
  · exact absurd ht1 (by omega)
  · refine J_iload_n (pc := 5) dX6_divides_5 rfl rfl ?_
    refine J_iload_n (pc := 6) dX6_divides_6 rfl rfl ?_
    refine J_iremN (pc := 7) dX6_divides_7 (by omega) (by omega) (by omega) ?_
    refine J_if_neN (pc := 8) (tgt := 15) dX6_divides_8 (by decide) (by omega) (fun ht3 => ?_) (fun hf4 => ?_)
    · exact absurd hy3 ht3
    · refine J_iconst (pc := 11) (v := nI 1) dX6_divides_11 (by decide) ?_
      refine J_goto (pc := 12) (tgt := 16) dX6_divides_12 (by decide) ?_
      exact J_zret (pc := 16) dX6_divides_16 rfl (nar_b (by first | decide | omega)) ⟨rfl, rfl⟩
end
