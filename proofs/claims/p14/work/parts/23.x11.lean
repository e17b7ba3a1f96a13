/-! contracts of the class -/
set_option maxRecDepth 100000 in
set_option maxHeartbeats 4000000 in
theorem c_X6_even {X : jX} (hs : X.1.stackTraces = false) {d : Nat} (hd : 14 ≤ d) {n : Nat} {e r q : Int32} (hn1 : 2 ≤ n) (hn2 : n ≤ 7) {w : List jC} (hS : SH (rX n e r q) w) (p0 : Int32) {kc ks : Nat} (hkc : 1 ≤ kc) (hks : 6 ≤ ks) : jMet X mX6_even d kc ks [.ref 0, .int p0] w (pX (pI (fun _ => True) (fun w' => rS n e r q w w')) (fun E w' => (E = "java/lang/IllegalArgumentException") ∧ rS n e r q w w')) := by
  refine jMet_of hs (by decide +kernel) (Nat.le_of_ble_eq_true rfl) (L := [some (.ref 0), some (.int p0)]) rfl ?_
  have hG : Fr kX w w := Fr.rf
  refine J_iload_n (pc := 0) dX6_even_0 rfl rfl ?_
  refine J_callS (pc := 1) (M := mX6_even) (as := [.int p0]) dX6_even_1 fw_X6_needSet fl_X6_131 fs_X6_needSet rfl (c_X6_needSet hs (d := d - 1) (by omega) (w := w) p0 (kc := 1) (ks := 6) (Nat.le_refl _) (Nat.le_refl _)) (by omega) (by omega) (by omega) (st := []) (Nat.le_of_ble_eq_true rfl) rfl (kr_X (kr_V fun w1 hw1 => ?_)) (kx_X fun E1 w1 hx1 => ?_)
  · obtain rfl := hw1.symm
    refine J_aload_n (pc := 4) dX6_even_4 rfl rfl rfl ?_
    obtain ⟨_, hc2, rfl⟩ := hS 0 _ rfl
    refine J_get (pc := 5) (k := 2) dX6_even_5 kC7 (by decide) ff_X6_23 hc2 rfl ?_
    refine J_aload_n (pc := 8) dX6_even_8 rfl rfl rfl ?_
    refine J_get (pc := 9) (k := 0) dX6_even_9 kC7 (by decide) ff_X6_9 hc2 rfl ?_
    refine J_iload_n (pc := 12) dX6_even_12 rfl rfl ?_
    refine J_aload_n (pc := 13) dX6_even_13 rfl rfl rfl ?_
    refine J_get (pc := 14) (k := 5) dX6_even_14 kC7 (by decide) ff_X6_41 hc2 rfl ?_
    obtain ⟨_, hc4, ka4, rfl, hb4_0⟩ := hS 8 _ rfl
    refine J_callV0 (pc := 17) (M := mX6_even) (as := [.ref 1, .int p0, .int (nI n)]) dX6_even_17 fw_X5_goThrough fl_X6_177 fm_X5_goThrough fe_X5_goThrough hc4 (by decide) rfl rfl rfl (c_X5_goThrough hs (d := d - 1) (by omega) (e := e) (r := r) (q := q) hn1 hn2 hS (w := w) p0 (kc := 0) (ks := 0)) (by omega) (st := []) (Nat.le_of_ble_eq_true rfl) rfl (kr_V fun w3 hw3 => ?_) kx_V
    obtain ⟨hS3, hF3⟩ := hw3
    have hG3 := hG.tr hF3
    refine J_aload_n (pc := 20) dX6_even_20 rfl rfl rfl ?_
    obtain ⟨_, hc5, rfl⟩ := hS3 0 _ rfl
    refine J_get (pc := 21) (k := 2) dX6_even_21 kC7 (by decide) ff_X6_23 hc5 rfl ?_
    obtain ⟨_, hc7, ka7, rfl, hb7_0⟩ := hS3 8 _ rfl
    refine J_callV0 (pc := 24) (M := mX6_even) (as := []) dX6_even_24 fw_X5_howManyEven fl_X6_199 fm_X5_howManyEven fe_X5_howManyEven hc7 (by decide) rfl rfl rfl (c_X5_howManyEven hs (d := d - 1) (by omega) (e := e) (r := r) (q := q) hn1 hn2 hS3 (w := w3)  (kc := 0) (ks := 0)) (by omega) (st := []) (Nat.le_of_ble_eq_true rfl) rfl (kr_P fun v6 hv6 => ?_) kx_I
    exact J_iret (pc := 27) dX6_even_27 rfl ⟨trivial, ⟨hS3, hG3⟩⟩
  · exact JX_out (fun _ h => nomatch h) (by obtain ⟨h1, h2⟩ := hx1; exact ⟨h1, by subst h2; exact ⟨hS.push, hG.tr Fr.push⟩⟩)
set_option maxRecDepth 100000 in
set_option maxHeartbeats 4000000 in
theorem c_X6_colourings {X : jX} (hs : X.1.stackTraces = false) {d : Nat} (hd : 14 ≤ d) {n : Nat} {e r q : Int32} (hn1 : 2 ≤ n) (hn2 : n ≤ 7) {w : List jC} (hS : SH (rX n e r q) w) (p0 : Int32) (p1 : Int32) (p2 : Int32) {kc ks : Nat} (hkc : 3 ≤ kc) (hks : 18 ≤ ks) : jMet X mX6_colourings d kc ks [.ref 0, .int p0, .int p1, .int p2] w (pX (pI (fun _ => True) (fun w' => rS n e r q w w')) (fun E w' => (E = "java/lang/IllegalArgumentException") ∧ rS n e r q w w')) := by
  refine jMet_of hs (by decide +kernel) (Nat.le_of_ble_eq_true rfl) (L := [some (.ref 0), some (.int p0), some (.int p1), some (.int p2)]) rfl ?_
  have hG : Fr kX w w := Fr.rf
  refine J_iload_n (pc := 0) dX6_colourings_0 rfl rfl ?_
  refine J_callS (pc := 1) (M := mX6_colourings) (as := [.int p0]) dX6_colourings_1 fw_X6_needSet fl_X6_131 fs_X6_needSet rfl (c_X6_needSet hs (d := d - 1) (by omega) (w := w) p0 (kc := 1) (ks := 6) (Nat.le_refl _) (Nat.le_refl _)) (by omega) (by omega) (by omega) (st := []) (Nat.le_of_ble_eq_true rfl) rfl (kr_X (kr_V fun w1 hw1 => ?_)) (kx_X fun E1 w1 hx1 => ?_)
  · obtain rfl := hw1.symm
    refine J_iload_n (pc := 4) dX6_colourings_4 rfl rfl ?_
    refine J_iconst (pc := 5) (v := nI 1) dX6_colourings_5 (by decide) ?_
    refine J_iconst (pc := 6) (v := nI 3) dX6_colourings_6 (by decide) ?_
    refine J_callS (pc := 7) (M := mX6_colourings) (as := [.int p1, .int (nI 1), .int (nI 3)]) dX6_colourings_7 fw_X6_needBetween fl_X6_63 fs_X6_needBetween rfl (c_X6_needBetween hs (d := d - 1) (by omega) (w := w) p1 (nI 1) (nI 3) (kc := 1) (ks := 6) (Nat.le_refl _) (Nat.le_refl _)) (by omega) (by omega) (by omega) (st := []) (Nat.le_of_ble_eq_true rfl) rfl (kr_X (kr_V fun w2 hw2 => ?_)) (kx_X fun E2 w2 hx2 => ?_)
    · obtain ⟨hq2, hpa2, hpb2⟩ := hw2
      obtain rfl := hq2.symm
      obtain ⟨b2, hb2, hc2, rfl⟩ := nI_btw hpa2 hpb2 (by omega) (by omega)
      refine J_iload_n (pc := 10) dX6_colourings_10 rfl rfl ?_
      refine J_iconst (pc := 11) (v := nI 0) dX6_colourings_11 (by decide) ?_
      refine J_iconst (pc := 12) (v := nI 1) dX6_colourings_12 (by decide) ?_
      refine J_callS (pc := 13) (M := mX6_colourings) (as := [.int p2, .int (nI 0), .int (nI 1)]) dX6_colourings_13 fw_X6_needBetween fl_X6_63 fs_X6_needBetween rfl (c_X6_needBetween hs (d := d - 1) (by omega) (w := w) p2 (nI 0) (nI 1) (kc := 1) (ks := 6) (Nat.le_refl _) (Nat.le_refl _)) (by omega) (by omega) (by omega) (st := []) (Nat.le_of_ble_eq_true rfl) rfl (kr_X (kr_V fun w3 hw3 => ?_)) (kx_X fun E3 w3 hx3 => ?_)
      · obtain ⟨hq3, hpa3, hpb3⟩ := hw3
        obtain rfl := hq3.symm
        obtain ⟨b3, hb3, hc3, rfl⟩ := nI_btw hpa3 hpb3 (by omega) (by omega)
        refine J_iload_n (pc := 16) dX6_colourings_16 rfl rfl ?_
        refine J_if_neN (pc := 17) (tgt := 45) dX6_colourings_17 (by decide) (by omega) (fun ht4 => ?_) (fun hf5 => ?_)
        · refine J_aload_n (pc := 45) dX6_colourings_45 rfl rfl rfl ?_
          obtain ⟨_, hc6, rfl⟩ := hS 0 _ rfl
          refine J_get (pc := 46) (k := 4) dX6_colourings_46 kC7 (by decide) ff_X6_37 hc6 rfl ?_
          refine J_aload_n (pc := 49) dX6_colourings_49 rfl rfl rfl ?_
          refine J_get (pc := 50) (k := 0) dX6_colourings_50 kC7 (by decide) ff_X6_9 hc6 rfl ?_
          refine J_iload_n (pc := 53) dX6_colourings_53 rfl rfl ?_
          refine J_iload_n (pc := 54) dX6_colourings_54 rfl rfl ?_
          refine J_aload_n (pc := 55) dX6_colourings_55 rfl rfl rfl ?_
          refine J_get (pc := 56) (k := 5) dX6_colourings_56 kC7 (by decide) ff_X6_41 hc6 rfl ?_
          obtain ⟨_, hc8, ka8, kb8, rfl, hb8_0, hb8_1, hb8_2⟩ := hS 14 _ rfl
          refine J_callV0 (pc := 59) (M := mX6_colourings) (as := [.ref 1, .int p0, .int (nI b2), .int (nI n)]) dX6_colourings_59 fw_X3_colouringsOneByOne fl_X6_205 fm_X3_colouringsOneByOne fe_X3_colouringsOneByOne hc8 (by decide) rfl rfl rfl (c_X3_colouringsOneByOne hs (d := d - 1) (by omega) (e := e) (r := r) (q := q) hn1 hn2 hS (w := w) p0 b2 (by omega) (by omega) (kc := 0) (ks := 0)) (by omega) (st := []) (Nat.le_of_ble_eq_true rfl) rfl (kr_I fun v7 w7 hv7 hw7 => ?_) kx_I
          obtain ⟨hS7, hF7⟩ := hw7
          have hG7 := hG.tr hF7
          exact J_iret (pc := 62) dX6_colourings_62 rfl ⟨trivial, ⟨hS7, hG7⟩⟩
        · refine J_aload_n (pc := 20) dX6_colourings_20 rfl rfl rfl ?_
          obtain ⟨_, hc9, rfl⟩ := hS 0 _ rfl
          refine J_get (pc := 21) (k := 2) dX6_colourings_21 kC7 (by decide) ff_X6_23 hc9 rfl ?_
          refine J_aload_n (pc := 24) dX6_colourings_24 rfl rfl rfl ?_
          refine J_get (pc := 25) (k := 0) dX6_colourings_25 kC7 (by decide) ff_X6_9 hc9 rfl ?_
          refine J_iload_n (pc := 28) dX6_colourings_28 rfl rfl ?_
          refine J_aload_n (pc := 29) dX6_colourings_29 rfl rfl rfl ?_
          refine J_get (pc := 30) (k := 5) dX6_colourings_30 kC7 (by decide) ff_X6_41 hc9 rfl ?_
          obtain ⟨_, hc11, ka11, rfl, hb11_0⟩ := hS 8 _ rfl
          refine J_callV0 (pc := 33) (M := mX6_colourings) (as := [.ref 1, .int p0, .int (nI n)]) dX6_colourings_33 fw_X5_goThrough fl_X6_177 fm_X5_goThrough fe_X5_goThrough hc11 (by decide) rfl rfl rfl (c_X5_goThrough hs (d := d - 1) (by omega) (e := e) (r := r) (q := q) hn1 hn2 hS (w := w) p0 (kc := 0) (ks := 0)) (by omega) (st := []) (Nat.le_of_ble_eq_true rfl) rfl (kr_V fun w10 hw10 => ?_) kx_V
          obtain ⟨hS10, hF10⟩ := hw10
          have hG10 := hG.tr hF10
          refine J_aload_n (pc := 36) dX6_colourings_36 rfl rfl rfl ?_
          obtain ⟨_, hc12, rfl⟩ := hS10 0 _ rfl
          refine J_get (pc := 37) (k := 2) dX6_colourings_37 kC7 (by decide) ff_X6_23 hc12 rfl ?_
          refine J_iload_n (pc := 40) dX6_colourings_40 rfl rfl ?_
          obtain ⟨_, hc14, ka14, rfl, hb14_0⟩ := hS10 8 _ rfl
          refine J_callV0 (pc := 41) (M := mX6_colourings) (as := [.int (nI b2)]) dX6_colourings_41 fw_X5_colouringsByMean fl_X6_202 fm_X5_colouringsByMean fe_X5_colouringsByMean hc14 (by decide) rfl rfl rfl (c_X5_colouringsByMean hs (d := d - 1) (by omega) (e := e) (r := r) (q := q) hn1 hn2 hS10 (w := w10) (nI b2) (kc := 0) (ks := 0)) (by omega) (st := []) (Nat.le_of_ble_eq_true rfl) rfl (kr_P fun v13 hv13 => ?_) kx_I
          exact J_iret (pc := 44) dX6_colourings_44 rfl ⟨trivial, ⟨hS10, hG10⟩⟩
      · exact JX_out (fun _ h => nomatch h) (by obtain ⟨h1, h2⟩ := hx3; exact ⟨h1, by subst h2; exact ⟨hS.push, hG.tr Fr.push⟩⟩)
    · exact JX_out (fun _ h => nomatch h) (by obtain ⟨h1, h2⟩ := hx2; exact ⟨h1, by subst h2; exact ⟨hS.push, hG.tr Fr.push⟩⟩)
  · exact JX_out (fun _ h => nomatch h) (by obtain ⟨h1, h2⟩ := hx1; exact ⟨h1, by subst h2; exact ⟨hS.push, hG.tr Fr.push⟩⟩)
set_option maxRecDepth 100000 in
set_option maxHeartbeats 4000000 in
theorem c_X6_isPart {X : jX} (hs : X.1.stackTraces = false) {d : Nat} (hd : 14 ≤ d) {n : Nat} {e r q : Int32} (hn1 : 2 ≤ n) (hn2 : n ≤ 7) {w : List jC} (hS : SH (rX n e r q) w) (p0 : Int32) (p1 : Int32) {kc ks : Nat} (hkc : 2 ≤ kc) (hks : 12 ≤ ks) : jMet X mX6_isPart d kc ks [.ref 0, .int p0, .int p1] w (pX (pI (fun v => ∃ k : Nat, v = nI k ∧ k < 2) (fun w' => rS n e r q w w')) (fun E w' => (E = "java/lang/IllegalArgumentException") ∧ rS n e r q w w')) := by
  refine jMet_of hs (by decide +kernel) (Nat.le_of_ble_eq_true rfl) (L := [some (.ref 0), some (.int p0), some (.int p1)]) rfl ?_
  have hG : Fr kX w w := Fr.rf
  refine J_iload_n (pc := 0) dX6_isPart_0 rfl rfl ?_
  refine J_callS (pc := 1) (M := mX6_isPart) (as := [.int p0]) dX6_isPart_1 fw_X6_needSet fl_X6_131 fs_X6_needSet rfl (c_X6_needSet hs (d := d - 1) (by omega) (w := w) p0 (kc := 1) (ks := 6) (Nat.le_refl _) (Nat.le_refl _)) (by omega) (by omega) (by omega) (st := []) (Nat.le_of_ble_eq_true rfl) rfl (kr_X (kr_V fun w1 hw1 => ?_)) (kx_X fun E1 w1 hx1 => ?_)
  · obtain rfl := hw1.symm
    refine J_iload_n (pc := 4) dX6_isPart_4 rfl rfl ?_
    refine J_callS (pc := 5) (M := mX6_isPart) (as := [.int p1]) dX6_isPart_5 fw_X6_needSet fl_X6_131 fs_X6_needSet rfl (c_X6_needSet hs (d := d - 1) (by omega) (w := w) p1 (kc := 1) (ks := 6) (Nat.le_refl _) (Nat.le_refl _)) (by omega) (by omega) (by omega) (st := []) (Nat.le_of_ble_eq_true rfl) rfl (kr_X (kr_V fun w2 hw2 => ?_)) (kx_X fun E2 w2 hx2 => ?_)
    · obtain rfl := hw2.symm
      refine J_aload_n (pc := 8) dX6_isPart_8 rfl rfl rfl ?_
      obtain ⟨_, hc3, rfl⟩ := hS 0 _ rfl
      refine J_get (pc := 9) (k := 1) dX6_isPart_9 kC7 (by decide) ff_X6_16 hc3 rfl ?_
      refine J_aload_n (pc := 12) dX6_isPart_12 rfl rfl rfl ?_
      refine J_get (pc := 13) (k := 0) dX6_isPart_13 kC7 (by decide) ff_X6_9 hc3 rfl ?_
      refine J_iload_n (pc := 16) dX6_isPart_16 rfl rfl ?_
      refine J_ldc (pc := 17) (v := nI 1754760) dX6_isPart_17 (by have := fk_X6_56; exact this) ?_
      refine J_aload_n (pc := 19) dX6_isPart_19 rfl rfl rfl ?_
      refine J_get (pc := 20) (k := 5) dX6_isPart_20 kC7 (by decide) ff_X6_41 hc3 rfl ?_
      obtain ⟨_, hc5, ka5, kf5, kb5, kg5, rfl, hb5_0, hb5_1⟩ := hS 2 _ rfl
      refine J_callV0 (pc := 23) (M := mX6_isPart) (as := [.ref 1, .int p1, .int (nI 1754760), .int (nI n)]) dX6_isPart_23 fw_X0_raise fl_X6_134 fm_X0_raise fe_X0_raise hc5 (by decide) rfl rfl rfl (c_X0_raise hs (d := d - 1) (by omega) (e := e) (r := r) (q := q) hn1 hn2 hS (w := w) p1 (nI 1754760) (kc := 0) (ks := 0)) (by omega) (st := []) (Nat.le_of_ble_eq_true rfl) rfl (kr_V fun w4 hw4 => ?_) kx_V
      obtain ⟨hS4, hF4⟩ := hw4
      have hG4 := hG.tr hF4
      refine J_aload_n (pc := 26) dX6_isPart_26 rfl rfl rfl ?_
      obtain ⟨_, hc6, rfl⟩ := hS4 0 _ rfl
      refine J_get (pc := 27) (k := 1) dX6_isPart_27 kC7 (by decide) ff_X6_16 hc6 rfl ?_
      refine J_aload_n (pc := 30) dX6_isPart_30 rfl rfl rfl ?_
      refine J_get (pc := 31) (k := 0) dX6_isPart_31 kC7 (by decide) ff_X6_9 hc6 rfl ?_
      refine J_iload_n (pc := 34) dX6_isPart_34 rfl rfl ?_
      obtain ⟨_, hc8, ka8, kf8, kb8, kg8, rfl, hb8_0, hb8_1⟩ := hS4 2 _ rfl
      refine J_callV0 (pc := 35) (M := mX6_isPart) (as := [.ref 1, .int p0]) dX6_isPart_35 fw_X0_holdsAll fl_X6_209 fm_X0_holdsAll fe_X0_holdsAll hc8 (by decide) rfl rfl rfl (c_X0_holdsAll hs (d := d - 1) (by omega) (e := e) (r := r) (q := q) hn1 hn2 hS4 (w := w4) p0 (kc := 0) (ks := 0)) (by omega) (st := []) (Nat.le_of_ble_eq_true rfl) rfl (kr_P fun v7 hv7 => ?_) kx_I
      obtain ⟨k7, rfl, hk7⟩ := hv7
      exact J_zret (pc := 38) dX6_isPart_38 rfl (nar_b (by omega)) ⟨⟨k7, rfl, by omega⟩, ⟨hS4, hG4⟩⟩
    · exact JX_out (fun _ h => nomatch h) (by obtain ⟨h1, h2⟩ := hx2; exact ⟨h1, by subst h2; exact ⟨hS.push, hG.tr Fr.push⟩⟩)
  · exact JX_out (fun _ h => nomatch h) (by obtain ⟨h1, h2⟩ := hx1; exact ⟨h1, by subst h2; exact ⟨hS.push, hG.tr Fr.push⟩⟩)
