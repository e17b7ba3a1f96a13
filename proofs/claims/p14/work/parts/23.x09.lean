/-! contracts of the class -/
set_option maxRecDepth 100000 in
set_option maxHeartbeats 4000000 in
theorem c_X6_reach {X : jX} (hs : X.1.stackTraces = false) {d : Nat} (hd : 14 ≤ d) {n : Nat} {e r q : Int32} (hn1 : 2 ≤ n) (hn2 : n ≤ 7) {w : List jC} (hS : SH (rX n e r q) w) (p0 : Int32) (p1 : Int32) (p2 : Int32) {kc ks : Nat} (hkc : 3 ≤ kc) (hks : 18 ≤ ks) : jMet X mX6_reach d kc ks [.ref 0, .int p0, .int p1, .int p2] w (pX (pI (fun _ => True) (fun w' => rS n e r q w w')) (fun E w' => (E = "java/lang/IndexOutOfBoundsException" ∨ E = "java/lang/IllegalArgumentException") ∧ rS n e r q w w')) := by
  refine jMet_of hs (by decide +kernel) (Nat.le_of_ble_eq_true rfl) (L := [some (.ref 0), some (.int p0), some (.int p1), some (.int p2)]) rfl ?_
  have hG : Fr kX w w := Fr.rf
  refine J_iload_n (pc := 0) dX6_reach_0 rfl rfl ?_
  refine J_callS (pc := 1) (M := mX6_reach) (as := [.int p1]) dX6_reach_1 fw_X6_needCell fl_X6_67 fs_X6_needCell rfl (c_X6_needCell hs (d := d - 1) (by omega) (w := w) p1 (kc := 1) (ks := 6) (Nat.le_refl _) (Nat.le_refl _)) (by omega) (by omega) (by omega) (st := []) (Nat.le_of_ble_eq_true rfl) rfl (kr_X (kr_V fun w1 hw1 => ?_)) (kx_X fun E1 w1 hx1 => ?_)
  · obtain ⟨hq1, hp1⟩ := hw1
    obtain rfl := hq1.symm
    obtain ⟨b1, hb1, rfl⟩ := hp1
    refine J_aload_n (pc := 4) dX6_reach_4 rfl rfl rfl ?_
    refine J_iload_n (pc := 5) dX6_reach_5 rfl rfl ?_
    obtain ⟨_, hc3, rfl⟩ := hS 0 _ rfl
    refine J_callV (pc := 6) (M := mX6_reach) (as := [.int p2]) dX6_reach_6 fw_X6_needPoint fl_X6_86 fm_X6_needPoint fe_X6_needPoint hc3 (by decide) rfl rfl rfl (c_X6_needPoint hs (d := d - 1) (by omega) (e := e) (r := r) (q := q) hn1 hn2 hS (w := w) p2 (kc := 1) (ks := 6) (Nat.le_refl _) (Nat.le_refl _)) (by omega) (by omega) (by omega) (st := []) (Nat.le_of_ble_eq_true rfl) rfl (kr_X (kr_V fun w2 hw2 => ?_)) (kx_X fun E2 w2 hx2 => ?_)
    · obtain ⟨hq2, hp2⟩ := hw2
      obtain rfl := hq2.symm
      obtain ⟨b2, hb2, rfl⟩ := hp2
      refine J_iload_n (pc := 9) dX6_reach_9 rfl rfl ?_
      refine J_callS (pc := 10) (M := mX6_reach) (as := [.int p0]) dX6_reach_10 fw_X6_needSet fl_X6_131 fs_X6_needSet rfl (c_X6_needSet hs (d := d - 1) (by omega) (w := w) p0 (kc := 1) (ks := 6) (Nat.le_refl _) (Nat.le_refl _)) (by omega) (by omega) (by omega) (st := []) (Nat.le_of_ble_eq_true rfl) rfl (kr_X (kr_V fun w4 hw4 => ?_)) (kx_X fun E4 w4 hx4 => ?_)
      · obtain rfl := hw4.symm
        refine J_aload_n (pc := 13) dX6_reach_13 rfl rfl rfl ?_
        refine J_get (pc := 14) (k := 1) dX6_reach_14 kC7 (by decide) ff_X6_16 hc3 rfl ?_
        refine J_aload_n (pc := 17) dX6_reach_17 rfl rfl rfl ?_
        refine J_get (pc := 18) (k := 0) dX6_reach_18 kC7 (by decide) ff_X6_9 hc3 rfl ?_
        refine J_iload_n (pc := 21) dX6_reach_21 rfl rfl ?_
        refine J_aload_n (pc := 22) dX6_reach_22 rfl rfl rfl ?_
        refine J_get (pc := 23) (k := 0) dX6_reach_23 kC7 (by decide) ff_X6_9 hc3 rfl ?_
        refine J_iload_n (pc := 26) dX6_reach_26 rfl rfl ?_
        obtain ⟨_, hc5, xs5, rfl, hl5⟩ := hS 1 _ rfl
        refine J_iald (pc := 27) dX6_reach_27 hc5 (nI_in (by omega) (by omega)) (J_absI fun x6 => ?_)
        refine J_aload_n (pc := 28) dX6_reach_28 rfl rfl rfl ?_
        refine J_get (pc := 29) (k := 5) dX6_reach_29 kC7 (by decide) ff_X6_41 hc3 rfl ?_
        obtain ⟨_, hc8, ka8, kf8, kb8, kg8, rfl, hb8_0, hb8_1⟩ := hS 2 _ rfl
        refine J_callV0 (pc := 32) (M := mX6_reach) (as := [.ref 1, .int p0, .int x6, .int (nI n)]) dX6_reach_32 fw_X0_raise fl_X6_134 fm_X0_raise fe_X0_raise hc8 (by decide) rfl rfl rfl (c_X0_raise hs (d := d - 1) (by omega) (e := e) (r := r) (q := q) hn1 hn2 hS (w := w) p0 x6 (kc := 0) (ks := 0)) (by omega) (st := []) (Nat.le_of_ble_eq_true rfl) rfl (kr_V fun w7 hw7 => ?_) kx_V
        obtain ⟨hS7, hF7⟩ := hw7
        have hG7 := hG.tr hF7
        refine J_aload_n (pc := 35) dX6_reach_35 rfl rfl rfl ?_
        obtain ⟨_, hc9, rfl⟩ := hS7 0 _ rfl
        refine J_get (pc := 36) (k := 1) dX6_reach_36 kC7 (by decide) ff_X6_16 hc9 rfl ?_
        refine J_iload_n (pc := 39) dX6_reach_39 rfl rfl ?_
        obtain ⟨_, hc11, ka11, kf11, kb11, kg11, rfl, hb11_0, hb11_1⟩ := hS7 2 _ rfl
        refine J_callV0 (pc := 40) (M := mX6_reach) (as := [.int (nI b2)]) dX6_reach_40 fw_X0_reachAt fl_X6_170 fm_X0_reachAt fe_X0_reachAt hc11 (by decide) rfl rfl rfl (c_X0_reachAt hs (d := d - 1) (by omega) (e := e) (r := r) (q := q) hn1 hn2 hS7 (w := w7) (nI b2) (kc := 0) (ks := 0)) (by omega) (st := []) (Nat.le_of_ble_eq_true rfl) rfl (kr_P fun v10 hv10 => ?_) kx_I
        exact J_iret (pc := 43) dX6_reach_43 rfl ⟨trivial, ⟨hS7, hG7⟩⟩
      · exact JX_out (fun _ h => nomatch h) (by obtain ⟨h1, h2⟩ := hx4; exact ⟨Or.inr h1, by subst h2; exact ⟨hS.push, hG.tr Fr.push⟩⟩)
    · exact JX_out (fun _ h => nomatch h) (by obtain ⟨h1, h2⟩ := hx2; exact ⟨Or.inl h1, by subst h2; exact ⟨hS.push, hG.tr Fr.push⟩⟩)
  · exact JX_out (fun _ h => nomatch h) (by obtain ⟨h1, h2⟩ := hx1; exact ⟨Or.inl h1, by subst h2; exact ⟨hS.push, hG.tr Fr.push⟩⟩)
set_option maxRecDepth 100000 in
set_option maxHeartbeats 4000000 in
theorem c_X6_isIn {X : jX} (hs : X.1.stackTraces = false) {d : Nat} (hd : 14 ≤ d) {n : Nat} {e r q : Int32} (hn1 : 2 ≤ n) (hn2 : n ≤ 7) {w : List jC} (hS : SH (rX n e r q) w) (p0 : Int32) (p1 : Int32) (p2 : Int32) {kc ks : Nat} (hkc : 3 ≤ kc) (hks : 18 ≤ ks) : jMet X mX6_isIn d kc ks [.ref 0, .int p0, .int p1, .int p2] w (pX (pI (fun v => ∃ k : Nat, v = nI k ∧ k < 2) (fun w' => rS n e r q w w')) (fun E w' => (E = "java/lang/IndexOutOfBoundsException" ∨ E = "java/lang/IllegalArgumentException") ∧ rS n e r q w w')) := by
  refine jMet_of hs (by decide +kernel) (Nat.le_of_ble_eq_true rfl) (L := [some (.ref 0), some (.int p0), some (.int p1), some (.int p2)]) rfl ?_
  have hG : Fr kX w w := Fr.rf
  refine J_iload_n (pc := 0) dX6_isIn_0 rfl rfl ?_
  refine J_callS (pc := 1) (M := mX6_isIn) (as := [.int p1]) dX6_isIn_1 fw_X6_needCell fl_X6_67 fs_X6_needCell rfl (c_X6_needCell hs (d := d - 1) (by omega) (w := w) p1 (kc := 1) (ks := 6) (Nat.le_refl _) (Nat.le_refl _)) (by omega) (by omega) (by omega) (st := []) (Nat.le_of_ble_eq_true rfl) rfl (kr_X (kr_V fun w1 hw1 => ?_)) (kx_X fun E1 w1 hx1 => ?_)
  · obtain ⟨hq1, hp1⟩ := hw1
    obtain rfl := hq1.symm
    obtain ⟨b1, hb1, rfl⟩ := hp1
    refine J_iload_n (pc := 4) dX6_isIn_4 rfl rfl ?_
    refine J_callS (pc := 5) (M := mX6_isIn) (as := [.int p0]) dX6_isIn_5 fw_X6_needSet fl_X6_131 fs_X6_needSet rfl (c_X6_needSet hs (d := d - 1) (by omega) (w := w) p0 (kc := 1) (ks := 6) (Nat.le_refl _) (Nat.le_refl _)) (by omega) (by omega) (by omega) (st := []) (Nat.le_of_ble_eq_true rfl) rfl (kr_X (kr_V fun w2 hw2 => ?_)) (kx_X fun E2 w2 hx2 => ?_)
    · obtain rfl := hw2.symm
      refine J_iload_n (pc := 8) dX6_isIn_8 rfl rfl ?_
      refine J_iconst (pc := 9) (v := nI 0) dX6_isIn_9 (by decide) ?_
      refine J_iconst (pc := 10) (v := nI 1) dX6_isIn_10 (by decide) ?_
      refine J_callS (pc := 11) (M := mX6_isIn) (as := [.int p2, .int (nI 0), .int (nI 1)]) dX6_isIn_11 fw_X6_needBetween fl_X6_63 fs_X6_needBetween rfl (c_X6_needBetween hs (d := d - 1) (by omega) (w := w) p2 (nI 0) (nI 1) (kc := 1) (ks := 6) (Nat.le_refl _) (Nat.le_refl _)) (by omega) (by omega) (by omega) (st := []) (Nat.le_of_ble_eq_true rfl) rfl (kr_X (kr_V fun w3 hw3 => ?_)) (kx_X fun E3 w3 hx3 => ?_)
      · obtain ⟨hq3, hpa3, hpb3⟩ := hw3
        obtain rfl := hq3.symm
        obtain ⟨b3, hb3, hc3, rfl⟩ := nI_btw hpa3 hpb3 (by omega) (by omega)
        refine J_iload_n (pc := 14) dX6_isIn_14 rfl rfl ?_
        refine J_if_neN (pc := 15) (tgt := 50) dX6_isIn_15 (by decide) (by omega) (fun ht4 => ?_) (fun hf5 => ?_)
        · refine J_aload_n (pc := 50) dX6_isIn_50 rfl rfl rfl ?_
          obtain ⟨_, hc6, rfl⟩ := hS 0 _ rfl
          refine J_get (pc := 51) (k := 2) dX6_isIn_51 kC7 (by decide) ff_X6_23 hc6 rfl ?_
          refine J_aload_n (pc := 54) dX6_isIn_54 rfl rfl rfl ?_
          refine J_get (pc := 55) (k := 0) dX6_isIn_55 kC7 (by decide) ff_X6_9 hc6 rfl ?_
          refine J_iload_n (pc := 58) dX6_isIn_58 rfl rfl ?_
          refine J_aload_n (pc := 59) dX6_isIn_59 rfl rfl rfl ?_
          refine J_get (pc := 60) (k := 5) dX6_isIn_60 kC7 (by decide) ff_X6_41 hc6 rfl ?_
          obtain ⟨_, hc8, ka8, rfl, hb8_0⟩ := hS 8 _ rfl
          refine J_callV0 (pc := 63) (M := mX6_isIn) (as := [.ref 1, .int p0, .int (nI n)]) dX6_isIn_63 fw_X5_goThrough fl_X6_177 fm_X5_goThrough fe_X5_goThrough hc8 (by decide) rfl rfl rfl (c_X5_goThrough hs (d := d - 1) (by omega) (e := e) (r := r) (q := q) hn1 hn2 hS (w := w) p0 (kc := 0) (ks := 0)) (by omega) (st := []) (Nat.le_of_ble_eq_true rfl) rfl (kr_V fun w7 hw7 => ?_) kx_V
          obtain ⟨hS7, hF7⟩ := hw7
          have hG7 := hG.tr hF7
          refine J_aload_n (pc := 66) dX6_isIn_66 rfl rfl rfl ?_
          obtain ⟨_, hc9, rfl⟩ := hS7 0 _ rfl
          refine J_get (pc := 67) (k := 2) dX6_isIn_67 kC7 (by decide) ff_X6_23 hc9 rfl ?_
          refine J_aload_n (pc := 70) dX6_isIn_70 rfl rfl rfl ?_
          refine J_get (pc := 71) (k := 0) dX6_isIn_71 kC7 (by decide) ff_X6_9 hc9 rfl ?_
          refine J_iload_n (pc := 74) dX6_isIn_74 rfl rfl ?_
          obtain ⟨_, hc10, xs10, rfl, hl10⟩ := hS7 1 _ rfl
          refine J_iald (pc := 75) dX6_isIn_75 hc10 (nI_in (by omega) (by omega)) (J_absI fun x11 => ?_)
          obtain ⟨_, hc13, ka13, rfl, hb13_0⟩ := hS7 8 _ rfl
          refine J_callV0 (pc := 76) (M := mX6_isIn) (as := [.int x11]) dX6_isIn_76 fw_X5_meets fl_X6_181 fm_X5_meets fe_X5_meets hc13 (by decide) rfl rfl rfl (c_X5_meets hs (d := d - 1) (by omega) (e := e) (r := r) (q := q) hn1 hn2 hS7 (w := w7) x11 (kc := 0) (ks := 0)) (by omega) (st := []) (Nat.le_of_ble_eq_true rfl) rfl (kr_P fun v12 hv12 => ?_) kx_I
          obtain ⟨k12, rfl, hk12⟩ := hv12
          exact J_zret (pc := 79) dX6_isIn_79 rfl (nar_b (by omega)) ⟨⟨k12, rfl, by omega⟩, ⟨hS7, hG7⟩⟩
        · refine J_aload_n (pc := 18) dX6_isIn_18 rfl rfl rfl ?_
          obtain ⟨_, hc14, rfl⟩ := hS 0 _ rfl
          refine J_get (pc := 19) (k := 1) dX6_isIn_19 kC7 (by decide) ff_X6_16 hc14 rfl ?_
          refine J_aload_n (pc := 22) dX6_isIn_22 rfl rfl rfl ?_
          refine J_get (pc := 23) (k := 0) dX6_isIn_23 kC7 (by decide) ff_X6_9 hc14 rfl ?_
          refine J_iload_n (pc := 26) dX6_isIn_26 rfl rfl ?_
          refine J_ldc (pc := 27) (v := nI 1754760) dX6_isIn_27 (by have := fk_X6_56; exact this) ?_
          refine J_aload_n (pc := 29) dX6_isIn_29 rfl rfl rfl ?_
          refine J_get (pc := 30) (k := 5) dX6_isIn_30 kC7 (by decide) ff_X6_41 hc14 rfl ?_
          obtain ⟨_, hc16, ka16, kf16, kb16, kg16, rfl, hb16_0, hb16_1⟩ := hS 2 _ rfl
          refine J_callV0 (pc := 33) (M := mX6_isIn) (as := [.ref 1, .int p0, .int (nI 1754760), .int (nI n)]) dX6_isIn_33 fw_X0_raise fl_X6_134 fm_X0_raise fe_X0_raise hc16 (by decide) rfl rfl rfl (c_X0_raise hs (d := d - 1) (by omega) (e := e) (r := r) (q := q) hn1 hn2 hS (w := w) p0 (nI 1754760) (kc := 0) (ks := 0)) (by omega) (st := []) (Nat.le_of_ble_eq_true rfl) rfl (kr_V fun w15 hw15 => ?_) kx_V
          obtain ⟨hS15, hF15⟩ := hw15
          have hG15 := hG.tr hF15
          refine J_aload_n (pc := 36) dX6_isIn_36 rfl rfl rfl ?_
          obtain ⟨_, hc17, rfl⟩ := hS15 0 _ rfl
          refine J_get (pc := 37) (k := 1) dX6_isIn_37 kC7 (by decide) ff_X6_16 hc17 rfl ?_
          refine J_aload_n (pc := 40) dX6_isIn_40 rfl rfl rfl ?_
          refine J_get (pc := 41) (k := 0) dX6_isIn_41 kC7 (by decide) ff_X6_9 hc17 rfl ?_
          refine J_iload_n (pc := 44) dX6_isIn_44 rfl rfl ?_
          obtain ⟨_, hc18, xs18, rfl, hl18⟩ := hS15 1 _ rfl
          refine J_iald (pc := 45) dX6_isIn_45 hc18 (nI_in (by omega) (by omega)) (J_absI fun x19 => ?_)
          obtain ⟨_, hc21, ka21, kf21, kb21, kg21, rfl, hb21_0, hb21_1⟩ := hS15 2 _ rfl
          refine J_callV0 (pc := 46) (M := mX6_isIn) (as := [.int x19]) dX6_isIn_46 fw_X0_holds fl_X6_173 fm_X0_holds fe_X0_holds hc21 (by decide) rfl rfl rfl (c_X0_holds hs (d := d - 1) (by omega) (e := e) (r := r) (q := q) hn1 hn2 hS15 (w := w15) x19 (kc := 0) (ks := 0)) (by omega) (st := []) (Nat.le_of_ble_eq_true rfl) rfl (kr_P fun v20 hv20 => ?_) kx_I
          obtain ⟨k20, rfl, hk20⟩ := hv20
          exact J_zret (pc := 49) dX6_isIn_49 rfl (nar_b (by omega)) ⟨⟨k20, rfl, by omega⟩, ⟨hS15, hG15⟩⟩
      · exact JX_out (fun _ h => nomatch h) (by obtain ⟨h1, h2⟩ := hx3; exact ⟨Or.inr h1, by subst h2; exact ⟨hS.push, hG.tr Fr.push⟩⟩)
    · exact JX_out (fun _ h => nomatch h) (by obtain ⟨h1, h2⟩ := hx2; exact ⟨Or.inr h1, by subst h2; exact ⟨hS.push, hG.tr Fr.push⟩⟩)
  · exact JX_out (fun _ h => nomatch h) (by obtain ⟨h1, h2⟩ := hx1; exact ⟨Or.inl h1, by subst h2; exact ⟨hS.push, hG.tr Fr.push⟩⟩)
