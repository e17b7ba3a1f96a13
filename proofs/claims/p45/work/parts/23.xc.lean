/-! contracts of the class -/
set_option maxRecDepth 100000 in
set_option maxHeartbeats 4000000 in
theorem c_X6_nth {X : jX} (hs : X.1.stackTraces = false) {d : Nat} (hd : 14 ≤ d) {n : Nat} {e r q : Int32} (hn1 : 2 ≤ n) (hn2 : n ≤ 7) {w : List jC} (hS : SH (rX n e r q) w) (p0 : Int32) (p1 : Int32) (p2 : Int32) (p3 : Int32) {kc ks : Nat} (hkc : 4 ≤ kc) (hks : 24 ≤ ks) : jMet X mX6_nth d kc ks [.ref 0, .int p0, .int p1, .int p2, .int p3] w (pX (pI (fun _ => True) (fun w' => rT n q w w')) (fun E w' => (E = "java/lang/IndexOutOfBoundsException" ∨ E = "java/lang/IllegalArgumentException") ∧ rT n q w w')) := by
  refine jMet_of hs (by decide +kernel) (Nat.le_of_ble_eq_true rfl) (L := [some (.ref 0), some (.int p0), some (.int p1), some (.int p2), some (.int p3)]) rfl ?_
  have hG : Fr kX w w := Fr.rf
  refine J_iload_n (pc := 0) dX6_nth_0 rfl rfl ?_
  refine J_callS (pc := 1) (as := [.int p1]) dX6_nth_1 fw_X6_needCell fl_X6_67 fs_X6_needCell rfl (c_X6_needCell hs (d := d - 1) (by omega) (w := w) p1 (kc := 1) (ks := 6) (Nat.le_refl _) (Nat.le_refl _)) (by omega) (by omega) (by omega) (st := []) (Nat.le_of_ble_eq_true rfl) rfl (kr_X (kr_V fun w1 hw1 => ?_)) (kx_X fun E1 w1 hx1 => ?_)
  · obtain ⟨rfl, hp1⟩ := hw1
    obtain ⟨b1, hb1, rfl⟩ := hp1
    refine J_iload (pc := 4) dX6_nth_4 rfl ?_
    refine J_callS (pc := 6) (as := [.int p3]) dX6_nth_6 fw_X6_needCell fl_X6_67 fs_X6_needCell rfl (c_X6_needCell hs (d := d - 1) (by omega) (w := w) p3 (kc := 1) (ks := 6) (Nat.le_refl _) (Nat.le_refl _)) (by omega) (by omega) (by omega) (st := []) (Nat.le_of_ble_eq_true rfl) rfl (kr_X (kr_V fun w2 hw2 => ?_)) (kx_X fun E2 w2 hx2 => ?_)
    · obtain ⟨rfl, hp2⟩ := hw2
      obtain ⟨b2, hb2, rfl⟩ := hp2
      refine J_iload_n (pc := 9) dX6_nth_9 rfl rfl ?_
      refine J_callS (pc := 10) (as := [.int p0]) dX6_nth_10 fw_X6_needSet fl_X6_131 fs_X6_needSet rfl (c_X6_needSet hs (d := d - 1) (by omega) (w := w) p0 (kc := 1) (ks := 6) (Nat.le_refl _) (Nat.le_refl _)) (by omega) (by omega) (by omega) (st := []) (Nat.le_of_ble_eq_true rfl) rfl (kr_X (kr_V fun w3 hw3 => ?_)) (kx_X fun E3 w3 hx3 => ?_)
      · subst hw3
        refine J_iload_n (pc := 13) dX6_nth_13 rfl rfl ?_
        refine J_if_lt (pc := 14) (tgt := 21) dX6_nth_14 (by decide) (fun ht4 => ?_) (fun hf5 => ?_)
        · refine J_iconst (pc := 21) (v := nI 0) dX6_nth_21 (by decide) ?_
          refine J_callS (pc := 22) (as := [.int (nI 0)]) dX6_nth_22 fw_X6_need fl_X6_99 fs_X6_need rfl (c_X6_need hs (d := d - 1) (by omega) (w := w) 0 (by omega) (kc := 1) (ks := 6) (Nat.le_refl _) (Nat.le_refl _)) (by omega) (by omega) (by omega) (st := []) (Nat.le_of_ble_eq_true rfl) rfl (kr_X (kr_V fun w6 hw6 => ?_)) (kx_X fun E6 w6 hx6 => ?_)
          · exact absurd rfl hw6.2
          · exact JX_out (fun _ h => nomatch h) (by obtain ⟨h1, h2⟩ := hx6; exact ⟨Or.inr h1, by subst h2; exact ⟨_, _, hS.push, hG.tr Fr.push⟩⟩)
        · refine J_iconst (pc := 17) (v := nI 1) dX6_nth_17 (by decide) ?_
          refine J_goto (pc := 18) (tgt := 22) dX6_nth_18 (by decide) ?_
          refine J_callS (pc := 22) (as := [.int (nI 1)]) dX6_nth_22 fw_X6_need fl_X6_99 fs_X6_need rfl (c_X6_need hs (d := d - 1) (by omega) (w := w) 1 (by omega) (kc := 1) (ks := 6) (Nat.le_refl _) (Nat.le_refl _)) (by omega) (by omega) (by omega) (st := []) (Nat.le_of_ble_eq_true rfl) rfl (kr_X (kr_V fun w7 hw7 => ?_)) (kx_X fun E7 w7 hx7 => ?_)
          · obtain ⟨rfl, hp7⟩ := hw7
            refine J_aload_n (pc := 25) dX6_nth_25 rfl rfl rfl ?_
            obtain ⟨_, hc8, rfl⟩ := hS 0 _ rfl
            refine J_get (pc := 26) (k := 1) dX6_nth_26 kC7 (by decide) ff_X6_16 hc8 rfl ?_
            refine J_aload_n (pc := 29) dX6_nth_29 rfl rfl rfl ?_
            refine J_get (pc := 30) (k := 0) dX6_nth_30 kC7 (by decide) ff_X6_9 hc8 rfl ?_
            refine J_iload_n (pc := 33) dX6_nth_33 rfl rfl ?_
            refine J_aload_n (pc := 34) dX6_nth_34 rfl rfl rfl ?_
            refine J_get (pc := 35) (k := 0) dX6_nth_35 kC7 (by decide) ff_X6_9 hc8 rfl ?_
            refine J_iload_n (pc := 38) dX6_nth_38 rfl rfl ?_
            obtain ⟨_, hc9, xs9, rfl, hl9⟩ := hS 1 _ rfl
            refine J_iald (pc := 39) dX6_nth_39 hc9 (nI_in (by omega) (by omega)) (J_absI fun x10 => ?_)
            refine J_aload_n (pc := 40) dX6_nth_40 rfl rfl rfl ?_
            refine J_get (pc := 41) (k := 5) dX6_nth_41 kC7 (by decide) ff_X6_41 hc8 rfl ?_
            obtain ⟨_, hc12, ka12, kf12, kb12, kg12, rfl, hb12_0, hb12_1⟩ := hS 2 _ rfl
            refine J_callV0 (pc := 44) (as := [.ref 1, .int p0, .int x10, .int (nI n)]) dX6_nth_44 fw_X0_raise fl_X6_134 fm_X0_raise fe_X0_raise hc12 (by decide) rfl rfl rfl (c_X0_raise hs (d := d - 1) (by omega) (e := e) (r := r) (q := q) hn1 hn2 hS (w := w) p0 x10 (kc := 0) (ks := 0)) (by omega) (st := []) (Nat.le_of_ble_eq_true rfl) rfl (kr_V fun w11 hw11 => ?_) kx_V
            obtain ⟨hS11, hF11⟩ := hw11
            have hG11 := hG.tr hF11
            refine J_iload_n (pc := 47) dX6_nth_47 rfl rfl ?_
            refine J_aload_n (pc := 48) dX6_nth_48 rfl rfl rfl ?_
            obtain ⟨_, hc13, rfl⟩ := hS11 0 _ rfl
            refine J_get (pc := 49) (k := 1) dX6_nth_49 kC7 (by decide) ff_X6_16 hc13 rfl ?_
            obtain ⟨_, hc15, ka15, kf15, kb15, kg15, rfl, hb15_0, hb15_1⟩ := hS11 2 _ rfl
            refine J_callV0 (pc := 52) (as := []) dX6_nth_52 fw_X0_total fl_X6_138 fm_X0_total fe_X0_total hc15 (by decide) rfl rfl rfl (c_X0_total hs (d := d - 1) (by omega) (e := e) (r := r) (q := q) hn1 hn2 hS11 (w := w11)  (kc := 0) (ks := 0)) (by omega) (st := [.int p2]) (Nat.le_of_ble_eq_true rfl) rfl (kr_P fun v14 hv14 => ?_) kx_I
            refine J_icmp_lt (pc := 55) (tgt := 63) dX6_nth_55 (by decide) (fun ht16 => ?_) (fun hf17 => ?_)
            · refine J_aload_n (pc := 63) dX6_nth_63 rfl rfl rfl ?_
              refine J_iload (pc := 64) dX6_nth_64 rfl ?_
              refine J_aload_n (pc := 66) dX6_nth_66 rfl rfl rfl ?_
              refine J_get (pc := 67) (k := 1) dX6_nth_67 kC7 (by decide) ff_X6_16 hc13 rfl ?_
              refine J_iload_n (pc := 70) dX6_nth_70 rfl rfl ?_
              refine J_ldc (pc := 71) (v := nI 1754760) dX6_nth_71 (by have := fk_X6_56; exact this) ?_
              refine J_callV0 (pc := 73) (as := [.int p2, .int (nI 1754760)]) dX6_nth_73 fw_X0_moveAt fl_X6_141 fm_X0_moveAt fe_X0_moveAt hc15 (by decide) rfl rfl rfl (c_X0_moveAt hs (d := d - 1) (by omega) (e := e) (r := r) (q := q) hn1 hn2 hS11 (w := w11) p2 (nI 1754760) (kc := 0) (ks := 0)) (by omega) (st := [.int (nI b2), .ref 0]) (Nat.le_of_ble_eq_true rfl) rfl (kr_P fun v18 hv18 => ?_) kx_I
              refine J_callV0 (pc := 76) (as := [.int (nI b2), .int v18]) dX6_nth_76 fw_X6_keepForNumber fl_X6_106 fm_X6_keepForNumber fe_X6_keepForNumber hc13 (by decide) rfl rfl rfl (c_X6_keepForNumber hs (d := d - 1) (by omega) (e := e) (r := r) (q := q) hn1 hn2 hS11 (w := w11) b2 v18 (by omega) (kc := 0) (ks := 0)) (by omega) (st := []) (Nat.le_of_ble_eq_true rfl) rfl (kr_I fun v19 w19 hv19 hw19 => ?_) kx_I
              obtain ⟨e19, r19, hS19, hF19⟩ := hw19
              have hG19 := hG11.tr hF19
              exact J_iret (pc := 79) dX6_nth_79 rfl ⟨trivial, ⟨_, _, hS19, hG19⟩⟩
            · refine J_aload_n (pc := 58) dX6_nth_58 rfl rfl rfl ?_
              refine J_callV0 (pc := 59) (as := []) dX6_nth_59 fw_X6_cannot fl_X6_124 fm_X6_cannot fe_X6_cannot hc13 (by decide) rfl rfl rfl (c_X6_cannot hs (d := d - 1) (by omega) (e := e) (r := r) (q := q) hn1 hn2 hS11 (w := w11)  (kc := 0) (ks := 0)) (by omega) (st := []) (Nat.le_of_ble_eq_true rfl) rfl (kr_I fun v20 w20 hv20 hw20 => ?_) kx_I
              obtain ⟨e20, r20, hS20, hF20⟩ := hw20
              have hG20 := hG11.tr hF20
              exact J_iret (pc := 62) dX6_nth_62 rfl ⟨trivial, ⟨_, _, hS20, hG20⟩⟩
          · exact JX_out (fun _ h => nomatch h) (by obtain ⟨h1, h2⟩ := hx7; exact ⟨Or.inr h1, by subst h2; exact ⟨_, _, hS.push, hG.tr Fr.push⟩⟩)
      · exact JX_out (fun _ h => nomatch h) (by obtain ⟨h1, h2⟩ := hx3; exact ⟨Or.inr h1, by subst h2; exact ⟨_, _, hS.push, hG.tr Fr.push⟩⟩)
    · exact JX_out (fun _ h => nomatch h) (by obtain ⟨h1, h2⟩ := hx2; exact ⟨Or.inl h1, by subst h2; exact ⟨_, _, hS.push, hG.tr Fr.push⟩⟩)
  · exact JX_out (fun _ h => nomatch h) (by obtain ⟨h1, h2⟩ := hx1; exact ⟨Or.inl h1, by subst h2; exact ⟨_, _, hS.push, hG.tr Fr.push⟩⟩)
set_option maxRecDepth 100000 in
set_option maxHeartbeats 4000000 in
theorem c_X6_count {X : jX} (hs : X.1.stackTraces = false) {d : Nat} (hd : 0 ≤ d) {n : Nat} {e r q : Int32} (hn1 : 2 ≤ n) (hn2 : n ≤ 7) {w : List jC} (hS : SH (rX n e r q) w) {kc ks : Nat} : jMet X mX6_count d kc ks [.ref 0] w (pI (fun v => ∃ k : Nat, v = nI k ∧ k = n) (fun w' => w' = w)) := by
  refine jMet_of hs (by decide +kernel) (Nat.le_of_ble_eq_true rfl) (L := [some (.ref 0)]) rfl ?_
  have hG : Fr kX w w := Fr.rf
  refine J_aload_n (pc := 0) dX6_count_0 rfl rfl rfl ?_
  obtain ⟨_, hc1, rfl⟩ := hS 0 _ rfl
  refine J_get (pc := 1) (k := 5) dX6_count_1 kC7 (by decide) ff_X6_41 hc1 rfl ?_
  exact J_iret (pc := 4) dX6_count_4 rfl ⟨⟨n, rfl, by omega⟩, rfl⟩
set_option maxRecDepth 100000 in
set_option maxHeartbeats 4000000 in
theorem c_X6_number {X : jX} (hs : X.1.stackTraces = false) {d : Nat} (hd : 12 ≤ d) {n : Nat} {e r q : Int32} (hn1 : 2 ≤ n) (hn2 : n ≤ 7) {w : List jC} (hS : SH (rX n e r q) w) (p0 : Int32) {kc ks : Nat} (hkc : 1 ≤ kc) (hks : 6 ≤ ks) : jMet X mX6_number d kc ks [.ref 0, .int p0] w (pX (pI (fun _ => True) (fun w' => w' = w)) (fun E w' => (E = "java/lang/IndexOutOfBoundsException") ∧ w' = w ++ [.inr (99, [])])) := by
  refine jMet_of hs (by decide +kernel) (Nat.le_of_ble_eq_true rfl) (L := [some (.ref 0), some (.int p0)]) rfl ?_
  have hG : Fr kX w w := Fr.rf
  refine J_iload_n (pc := 0) dX6_number_0 rfl rfl ?_
  refine J_callS (pc := 1) (as := [.int p0]) dX6_number_1 fw_X6_needCell fl_X6_67 fs_X6_needCell rfl (c_X6_needCell hs (d := d - 1) (by omega) (w := w) p0 (kc := 1) (ks := 6) (Nat.le_refl _) (Nat.le_refl _)) (by omega) (by omega) (by omega) (st := []) (Nat.le_of_ble_eq_true rfl) rfl (kr_X (kr_V fun w1 hw1 => ?_)) (kx_X fun E1 w1 hx1 => ?_)
  · obtain ⟨rfl, hp1⟩ := hw1
    obtain ⟨b1, hb1, rfl⟩ := hp1
    refine J_aload_n (pc := 4) dX6_number_4 rfl rfl rfl ?_
    obtain ⟨_, hc2, rfl⟩ := hS 0 _ rfl
    refine J_get (pc := 5) (k := 0) dX6_number_5 kC7 (by decide) ff_X6_9 hc2 rfl ?_
    refine J_iload_n (pc := 8) dX6_number_8 rfl rfl ?_
    obtain ⟨_, hc3, xs3, rfl, hl3⟩ := hS 1 _ rfl
    refine J_iald (pc := 9) dX6_number_9 hc3 (nI_in (by omega) (by omega)) (J_absI fun x4 => ?_)
    refine J_aload_n (pc := 10) dX6_number_10 rfl rfl rfl ?_
    refine J_get (pc := 11) (k := 5) dX6_number_11 kC7 (by decide) ff_X6_41 hc2 rfl ?_
    refine J_callS0 (pc := 14) (as := [.int x4, .int (nI n)]) dX6_number_14 fw_X2_numberOf fl_X6_75 fs_X2_numberOf rfl (c_X2_numberOf hs (d := d - 1) (by omega) (w := w) x4 n (by omega) (kc := 0) (ks := 0)) (by omega) (st := []) (Nat.le_of_ble_eq_true rfl) rfl (kr_P fun v5 hv5 => ?_) kx_I
    exact J_iret (pc := 17) dX6_number_17 rfl ⟨trivial, rfl⟩
  · exact JX_out (fun _ h => nomatch h) (by obtain ⟨h1, h2⟩ := hx1; exact ⟨h1, h2⟩)
set_option maxRecDepth 100000 in
set_option maxHeartbeats 4000000 in
theorem c_X6_goes {X : jX} (hs : X.1.stackTraces = false) {d : Nat} (hd : 12 ≤ d) {n : Nat} {e r q : Int32} (hn1 : 2 ≤ n) (hn2 : n ≤ 7) {w : List jC} (hS : SH (rX n e r q) w) (p0 : Int32) (p1 : Int32) {kc ks : Nat} (hkc : 2 ≤ kc) (hks : 12 ≤ ks) : jMet X mX6_goes d kc ks [.ref 0, .int p0, .int p1] w (pX (pI (fun v => ∃ k : Nat, v = nI k ∧ k < 8) (fun w' => w' = w)) (fun E w' => (E = "java/lang/IndexOutOfBoundsException") ∧ w' = w ++ [.inr (99, [])])) := by
  refine jMet_of hs (by decide +kernel) (Nat.le_of_ble_eq_true rfl) (L := [some (.ref 0), some (.int p0), some (.int p1)]) rfl ?_
  have hG : Fr kX w w := Fr.rf
  refine J_iload_n (pc := 0) dX6_goes_0 rfl rfl ?_
  refine J_callS (pc := 1) (as := [.int p0]) dX6_goes_1 fw_X6_needCell fl_X6_67 fs_X6_needCell rfl (c_X6_needCell hs (d := d - 1) (by omega) (w := w) p0 (kc := 1) (ks := 6) (Nat.le_refl _) (Nat.le_refl _)) (by omega) (by omega) (by omega) (st := []) (Nat.le_of_ble_eq_true rfl) rfl (kr_X (kr_V fun w1 hw1 => ?_)) (kx_X fun E1 w1 hx1 => ?_)
  · obtain ⟨rfl, hp1⟩ := hw1
    obtain ⟨b1, hb1, rfl⟩ := hp1
    refine J_aload_n (pc := 4) dX6_goes_4 rfl rfl rfl ?_
    refine J_iload_n (pc := 5) dX6_goes_5 rfl rfl ?_
    obtain ⟨_, hc3, rfl⟩ := hS 0 _ rfl
    refine J_callV (pc := 6) (as := [.int p1]) dX6_goes_6 fw_X6_needPoint fl_X6_86 fm_X6_needPoint fe_X6_needPoint hc3 (by decide) rfl rfl rfl (c_X6_needPoint hs (d := d - 1) (by omega) (e := e) (r := r) (q := q) hn1 hn2 hS (w := w) p1 (kc := 1) (ks := 6) (Nat.le_refl _) (Nat.le_refl _)) (by omega) (by omega) (by omega) (st := []) (Nat.le_of_ble_eq_true rfl) rfl (kr_X (kr_V fun w2 hw2 => ?_)) (kx_X fun E2 w2 hx2 => ?_)
    · obtain ⟨rfl, hp2⟩ := hw2
      obtain ⟨b2, hb2, rfl⟩ := hp2
      refine J_aload_n (pc := 9) dX6_goes_9 rfl rfl rfl ?_
      refine J_get (pc := 10) (k := 0) dX6_goes_10 kC7 (by decide) ff_X6_9 hc3 rfl ?_
      refine J_iload_n (pc := 13) dX6_goes_13 rfl rfl ?_
      obtain ⟨_, hc4, xs4, rfl, hl4⟩ := hS 1 _ rfl
      refine J_iald (pc := 14) dX6_goes_14 hc4 (nI_in (by omega) (by omega)) (J_absI fun x5 => ?_)
      refine J_iload_n (pc := 15) dX6_goes_15 rfl rfl ?_
      refine J_callS0 (pc := 16) (as := [.int x5, .int (nI b2)]) dX6_goes_16 fw_X2_goal fl_X6_144 fs_X2_goal rfl (c_X2_goal hs (d := d - 1) (by omega) (w := w) x5 (nI b2) (kc := 0) (ks := 0)) (by omega) (st := []) (Nat.le_of_ble_eq_true rfl) rfl (kr_P fun v6 hv6 => ?_) kx_I
      obtain ⟨k6, rfl, hk6⟩ := hv6
      exact J_iret (pc := 19) dX6_goes_19 rfl ⟨⟨k6, rfl, by omega⟩, rfl⟩
    · exact JX_out (fun _ h => nomatch h) (by obtain ⟨h1, h2⟩ := hx2; exact ⟨h1, h2⟩)
  · exact JX_out (fun _ h => nomatch h) (by obtain ⟨h1, h2⟩ := hx1; exact ⟨h1, h2⟩)
set_option maxRecDepth 100000 in
set_option maxHeartbeats 4000000 in
theorem c_X6_order {X : jX} (hs : X.1.stackTraces = false) {d : Nat} (hd : 12 ≤ d) {n : Nat} {e r q : Int32} (hn1 : 2 ≤ n) (hn2 : n ≤ 7) {w : List jC} (hS : SH (rX n e r q) w) (p0 : Int32) {kc ks : Nat} (hkc : 1 ≤ kc) (hks : 6 ≤ ks) : jMet X mX6_order d kc ks [.ref 0, .int p0] w (pX (pI (fun v => ∃ k : Nat, v = nI k ∧ k < 16) (fun w' => w' = w)) (fun E w' => (E = "java/lang/IndexOutOfBoundsException") ∧ w' = w ++ [.inr (99, [])])) := by
  refine jMet_of hs (by decide +kernel) (Nat.le_of_ble_eq_true rfl) (L := [some (.ref 0), some (.int p0)]) rfl ?_
  have hG : Fr kX w w := Fr.rf
  refine J_iload_n (pc := 0) dX6_order_0 rfl rfl ?_
  refine J_callS (pc := 1) (as := [.int p0]) dX6_order_1 fw_X6_needCell fl_X6_67 fs_X6_needCell rfl (c_X6_needCell hs (d := d - 1) (by omega) (w := w) p0 (kc := 1) (ks := 6) (Nat.le_refl _) (Nat.le_refl _)) (by omega) (by omega) (by omega) (st := []) (Nat.le_of_ble_eq_true rfl) rfl (kr_X (kr_V fun w1 hw1 => ?_)) (kx_X fun E1 w1 hx1 => ?_)
  · obtain ⟨rfl, hp1⟩ := hw1
    obtain ⟨b1, hb1, rfl⟩ := hp1
    refine J_aload_n (pc := 4) dX6_order_4 rfl rfl rfl ?_
    obtain ⟨_, hc2, rfl⟩ := hS 0 _ rfl
    refine J_get (pc := 5) (k := 0) dX6_order_5 kC7 (by decide) ff_X6_9 hc2 rfl ?_
    refine J_iload_n (pc := 8) dX6_order_8 rfl rfl ?_
    obtain ⟨_, hc3, xs3, rfl, hl3⟩ := hS 1 _ rfl
    refine J_iald (pc := 9) dX6_order_9 hc3 (nI_in (by omega) (by omega)) (J_absI fun x4 => ?_)
    refine J_callS0 (pc := 10) (as := [.int x4]) dX6_order_10 fw_X2_orderOf fl_X6_164 fs_X2_orderOf rfl (c_X2_orderOf hs (d := d - 1) (by omega) (w := w) x4 (kc := 0) (ks := 0)) (by omega) (st := []) (Nat.le_of_ble_eq_true rfl) rfl (kr_P fun v5 hv5 => ?_) kx_I
    obtain ⟨k5, rfl, hk5⟩ := hv5
    exact J_iret (pc := 13) dX6_order_13 rfl ⟨⟨k5, rfl, by omega⟩, rfl⟩
  · exact JX_out (fun _ h => nomatch h) (by obtain ⟨h1, h2⟩ := hx1; exact ⟨h1, h2⟩)
set_option maxRecDepth 100000 in
set_option maxHeartbeats 4000000 in
theorem c_X6_sign {X : jX} (hs : X.1.stackTraces = false) {d : Nat} (hd : 12 ≤ d) {n : Nat} {e r q : Int32} (hn1 : 2 ≤ n) (hn2 : n ≤ 7) {w : List jC} (hS : SH (rX n e r q) w) (p0 : Int32) {kc ks : Nat} (hkc : 1 ≤ kc) (hks : 6 ≤ ks) : jMet X mX6_sign d kc ks [.ref 0, .int p0] w (pX (pI (fun _ => True) (fun w' => w' = w)) (fun E w' => (E = "java/lang/IndexOutOfBoundsException") ∧ w' = w ++ [.inr (99, [])])) := by
  refine jMet_of hs (by decide +kernel) (Nat.le_of_ble_eq_true rfl) (L := [some (.ref 0), some (.int p0)]) rfl ?_
  have hG : Fr kX w w := Fr.rf
  refine J_iload_n (pc := 0) dX6_sign_0 rfl rfl ?_
  refine J_callS (pc := 1) (as := [.int p0]) dX6_sign_1 fw_X6_needCell fl_X6_67 fs_X6_needCell rfl (c_X6_needCell hs (d := d - 1) (by omega) (w := w) p0 (kc := 1) (ks := 6) (Nat.le_refl _) (Nat.le_refl _)) (by omega) (by omega) (by omega) (st := []) (Nat.le_of_ble_eq_true rfl) rfl (kr_X (kr_V fun w1 hw1 => ?_)) (kx_X fun E1 w1 hx1 => ?_)
  · obtain ⟨rfl, hp1⟩ := hw1
    obtain ⟨b1, hb1, rfl⟩ := hp1
    refine J_aload_n (pc := 4) dX6_sign_4 rfl rfl rfl ?_
    obtain ⟨_, hc2, rfl⟩ := hS 0 _ rfl
    refine J_get (pc := 5) (k := 0) dX6_sign_5 kC7 (by decide) ff_X6_9 hc2 rfl ?_
    refine J_iload_n (pc := 8) dX6_sign_8 rfl rfl ?_
    obtain ⟨_, hc3, xs3, rfl, hl3⟩ := hS 1 _ rfl
    refine J_iald (pc := 9) dX6_sign_9 hc3 (nI_in (by omega) (by omega)) (J_absI fun x4 => ?_)
    refine J_aload_n (pc := 10) dX6_sign_10 rfl rfl rfl ?_
    refine J_get (pc := 11) (k := 5) dX6_sign_11 kC7 (by decide) ff_X6_41 hc2 rfl ?_
    refine J_callS0 (pc := 14) (as := [.int x4, .int (nI n)]) dX6_sign_14 fw_X2_signOf fl_X6_167 fs_X2_signOf rfl (c_X2_signOf hs (d := d - 1) (by omega) (w := w) x4 n (by omega) (kc := 0) (ks := 0)) (by omega) (st := []) (Nat.le_of_ble_eq_true rfl) rfl (kr_P fun v5 hv5 => ?_) kx_I
    exact J_iret (pc := 17) dX6_sign_17 rfl ⟨trivial, rfl⟩
  · exact JX_out (fun _ h => nomatch h) (by obtain ⟨h1, h2⟩ := hx1; exact ⟨h1, h2⟩)
set_option maxRecDepth 100000 in
set_option maxHeartbeats 4000000 in
theorem c_X6_stays {X : jX} (hs : X.1.stackTraces = false) {d : Nat} (hd : 12 ≤ d) {n : Nat} {e r q : Int32} (hn1 : 2 ≤ n) (hn2 : n ≤ 7) {w : List jC} (hS : SH (rX n e r q) w) (p0 : Int32) {kc ks : Nat} (hkc : 1 ≤ kc) (hks : 6 ≤ ks) : jMet X mX6_stays d kc ks [.ref 0, .int p0] w (pX (pI (fun _ => True) (fun w' => w' = w)) (fun E w' => (E = "java/lang/IndexOutOfBoundsException") ∧ w' = w ++ [.inr (99, [])])) := by
  refine jMet_of hs (by decide +kernel) (Nat.le_of_ble_eq_true rfl) (L := [some (.ref 0), some (.int p0), none, none]) rfl ?_
  have hG : Fr kX w w := Fr.rf
  refine J_iload_n (pc := 0) dX6_stays_0 rfl rfl ?_
  refine J_callS (pc := 1) (as := [.int p0]) dX6_stays_1 fw_X6_needCell fl_X6_67 fs_X6_needCell rfl (c_X6_needCell hs (d := d - 1) (by omega) (w := w) p0 (kc := 1) (ks := 6) (Nat.le_refl _) (Nat.le_refl _)) (by omega) (by omega) (by omega) (st := []) (Nat.le_of_ble_eq_true rfl) rfl (kr_X (kr_V fun w1 hw1 => ?_)) (kx_X fun E1 w1 hx1 => ?_)
  · obtain ⟨rfl, hp1⟩ := hw1
    obtain ⟨b1, hb1, rfl⟩ := hp1
    refine J_iconst (pc := 4) (v := nI 0) dX6_stays_4 (by decide) ?_
    refine J_istore_n (pc := 5) dX6_stays_5 rfl (by decide) rfl ?_
    show J X mX6_stays d (kc - 1) (ks - 6) 6 [some (.ref 0), some (.int (nI b1)), some (.int (nI 0)), none] [] w _
    refine J_iconst (pc := 6) (v := nI 0) dX6_stays_6 (by decide) ?_
    refine J_istore_n (pc := 7) dX6_stays_7 rfl (by decide) rfl ?_
    show J X mX6_stays d (kc - 1) (ks - 6) 8 [some (.ref 0), some (.int (nI b1)), some (.int (nI 0)), some (.int (nI 0))] [] w _
    have lp8_2 : ∀ (fuel : Nat) (z2 : Int32) (c3 : Nat), c3 < 2147483648 → 7 - c3 < fuel → J X mX6_stays d (kc - 1) (ks - 6) 8 [some (.ref 0), some (.int (nI b1)), some (.int z2), some (.int (nI c3))] [] w (pX (pI (fun _ => True) (fun w' => w' = w)) (fun E w' => (E = "java/lang/IndexOutOfBoundsException") ∧ w' = w ++ [.inr (99, [])])) := by
      intro fuellp8_2
      induction fuellp8_2 with
      | zero => intros; omega
      | succ fuellp8_2 ihlp8_2 =>
        intro z2 c3 hi3 hf4
        refine J_iload_n (pc := 8) dX6_stays_8 rfl rfl ?_
        refine J_aload_n (pc := 9) dX6_stays_9 rfl rfl rfl ?_
        obtain ⟨_, hc5, rfl⟩ := hS 0 _ rfl
        refine J_get (pc := 10) (k := 5) dX6_stays_10 kC7 (by decide) ff_X6_41 hc5 rfl ?_
        refine J_icmp_geN (pc := 13) (tgt := 42) dX6_stays_13 (by decide) (by omega) (by omega) (fun ht6 => ?_) (fun hf7 => ?_)
        · refine J_iload_n (pc := 42) dX6_stays_42 rfl rfl ?_
          exact J_iret (pc := 43) dX6_stays_43 rfl ⟨trivial, rfl⟩
        · refine J_aload_n (pc := 16) dX6_stays_16 rfl rfl rfl ?_
          refine J_get (pc := 17) (k := 0) dX6_stays_17 kC7 (by decide) ff_X6_9 hc5 rfl ?_
          refine J_iload_n (pc := 20) dX6_stays_20 rfl rfl ?_
          obtain ⟨_, hc8, xs8, rfl, hl8⟩ := hS 1 _ rfl
          refine J_iald (pc := 21) dX6_stays_21 hc8 (nI_in (by omega) (by omega)) (J_absI fun x9 => ?_)
          refine J_iload_n (pc := 22) dX6_stays_22 rfl rfl ?_
          refine J_callS0 (pc := 23) (as := [.int x9, .int (nI c3)]) dX6_stays_23 fw_X2_goal fl_X6_144 fs_X2_goal rfl (c_X2_goal hs (d := d - 1) (by omega) (w := w) x9 (nI c3) (kc := 0) (ks := 0)) (by omega) (st := []) (Nat.le_of_ble_eq_true rfl) rfl (kr_P fun v10 hv10 => ?_) kx_I
          obtain ⟨k10, rfl, hk10⟩ := hv10
          refine J_iload_n (pc := 26) dX6_stays_26 rfl rfl ?_
          refine J_icmp_neN (pc := 27) (tgt := 36) dX6_stays_27 (by decide) (by omega) (by omega) (fun ht11 => ?_) (fun hf12 => ?_)
          · refine J_iincN (pc := 36) (b := 1) dX6_stays_36 rfl (by decide) (by decide) rfl ?_
            show J X mX6_stays d (kc - 1) (ks - 6) 39 [some (.ref 0), some (.int (nI b1)), some (.int z2), some (.int (nI (c3 + 1)))] [] w _
            refine J_goto (pc := 39) (tgt := 8) dX6_stays_39 (by decide) ?_
            exact J_sub (L' := [some (.ref 0), some (.int (nI b1)), some (.int z2), some (.int (nI (c3 + 1)))]) ⟨rfl, ⟨rfl, ⟨rfl, ⟨rfl, trivial⟩⟩⟩⟩ (ihlp8_2 z2 (c3 + 1) (by first | assumption | omega) (by omega))
          · refine J_iload_n (pc := 30) dX6_stays_30 rfl rfl ?_
            refine J_iconst (pc := 31) (v := nI 1) dX6_stays_31 (by decide) ?_
            refine J_iload_n (pc := 32) dX6_stays_32 rfl rfl ?_
            refine J_ishl (pc := 33) dX6_stays_33 (J_absI fun x13 => ?_)
            refine J_ior (pc := 34) dX6_stays_34 (J_absI fun x14 => ?_)
            refine J_istore_n (pc := 35) dX6_stays_35 rfl (by decide) rfl ?_
            show J X mX6_stays d (kc - 1) (ks - 6) 36 [some (.ref 0), some (.int (nI b1)), some (.int x14), some (.int (nI c3))] [] w _
            refine J_iincN (pc := 36) (b := 1) dX6_stays_36 rfl (by decide) (by decide) rfl ?_
            show J X mX6_stays d (kc - 1) (ks - 6) 39 [some (.ref 0), some (.int (nI b1)), some (.int x14), some (.int (nI (c3 + 1)))] [] w _
            refine J_goto (pc := 39) (tgt := 8) dX6_stays_39 (by decide) ?_
            exact J_sub (L' := [some (.ref 0), some (.int (nI b1)), some (.int x14), some (.int (nI (c3 + 1)))]) ⟨rfl, ⟨rfl, ⟨rfl, ⟨rfl, trivial⟩⟩⟩⟩ (ihlp8_2 x14 (c3 + 1) (by first | assumption | omega) (by omega))
    exact J_sub (L' := [some (.ref 0), some (.int (nI b1)), some (.int (nI 0)), some (.int (nI 0))]) ⟨rfl, ⟨rfl, ⟨rfl, ⟨rfl, trivial⟩⟩⟩⟩ (lp8_2 _ (nI 0) 0 (by first | assumption | omega) (Nat.lt_succ_self _))
  · exact JX_out (fun _ h => nomatch h) (by obtain ⟨h1, h2⟩ := hx1; exact ⟨h1, h2⟩)
set_option maxRecDepth 100000 in
set_option maxHeartbeats 4000000 in
theorem c_X6_areAlike {X : jX} (hs : X.1.stackTraces = false) {d : Nat} (hd : 12 ≤ d) {n : Nat} {e r q : Int32} (hn1 : 2 ≤ n) (hn2 : n ≤ 7) {w : List jC} (hS : SH (rX n e r q) w) (p0 : Int32) (p1 : Int32) {kc ks : Nat} (hkc : 2 ≤ kc) (hks : 12 ≤ ks) : jMet X mX6_areAlike d kc ks [.ref 0, .int p0, .int p1] w (pX (pI (fun v => ∃ k : Nat, v = nI k ∧ k < 2) (fun w' => w' = w)) (fun E w' => (E = "java/lang/IndexOutOfBoundsException") ∧ w' = w ++ [.inr (99, [])])) := by
  refine jMet_of hs (by decide +kernel) (Nat.le_of_ble_eq_true rfl) (L := [some (.ref 0), some (.int p0), some (.int p1)]) rfl ?_
  have hG : Fr kX w w := Fr.rf
  refine J_iload_n (pc := 0) dX6_areAlike_0 rfl rfl ?_
  refine J_callS (pc := 1) (as := [.int p0]) dX6_areAlike_1 fw_X6_needCell fl_X6_67 fs_X6_needCell rfl (c_X6_needCell hs (d := d - 1) (by omega) (w := w) p0 (kc := 1) (ks := 6) (Nat.le_refl _) (Nat.le_refl _)) (by omega) (by omega) (by omega) (st := []) (Nat.le_of_ble_eq_true rfl) rfl (kr_X (kr_V fun w1 hw1 => ?_)) (kx_X fun E1 w1 hx1 => ?_)
  · obtain ⟨rfl, hp1⟩ := hw1
    obtain ⟨b1, hb1, rfl⟩ := hp1
    refine J_iload_n (pc := 4) dX6_areAlike_4 rfl rfl ?_
    refine J_callS (pc := 5) (as := [.int p1]) dX6_areAlike_5 fw_X6_needCell fl_X6_67 fs_X6_needCell rfl (c_X6_needCell hs (d := d - 1) (by omega) (w := w) p1 (kc := 1) (ks := 6) (Nat.le_refl _) (Nat.le_refl _)) (by omega) (by omega) (by omega) (st := []) (Nat.le_of_ble_eq_true rfl) rfl (kr_X (kr_V fun w2 hw2 => ?_)) (kx_X fun E2 w2 hx2 => ?_)
    · obtain ⟨rfl, hp2⟩ := hw2
      obtain ⟨b2, hb2, rfl⟩ := hp2
      refine J_aload_n (pc := 8) dX6_areAlike_8 rfl rfl rfl ?_
      obtain ⟨_, hc3, rfl⟩ := hS 0 _ rfl
      refine J_get (pc := 9) (k := 0) dX6_areAlike_9 kC7 (by decide) ff_X6_9 hc3 rfl ?_
      refine J_iload_n (pc := 12) dX6_areAlike_12 rfl rfl ?_
      obtain ⟨_, hc4, xs4, rfl, hl4⟩ := hS 1 _ rfl
      refine J_iald (pc := 13) dX6_areAlike_13 hc4 (nI_in (by omega) (by omega)) (J_absI fun x5 => ?_)
      refine J_aload_n (pc := 14) dX6_areAlike_14 rfl rfl rfl ?_
      refine J_get (pc := 15) (k := 0) dX6_areAlike_15 kC7 (by decide) ff_X6_9 hc3 rfl ?_
      refine J_iload_n (pc := 18) dX6_areAlike_18 rfl rfl ?_
      refine J_iald (pc := 19) dX6_areAlike_19 hc4 (nI_in (by omega) (by omega)) (J_absI fun x6 => ?_)
      refine J_callS0 (pc := 20) (as := [.int x5, .int x6]) dX6_areAlike_20 fw_X2_haveLikeRings fl_X6_120 fs_X2_haveLikeRings rfl (c_X2_haveLikeRings hs (d := d - 1) (by omega) (w := w) x5 x6 (kc := 0) (ks := 0)) (by omega) (st := []) (Nat.le_of_ble_eq_true rfl) rfl (kr_P fun v7 hv7 => ?_) kx_I
      obtain ⟨k7, rfl, hk7⟩ := hv7
      exact J_zret (pc := 23) dX6_areAlike_23 rfl (nar_b (by omega)) ⟨⟨k7, rfl, by omega⟩, rfl⟩
    · exact JX_out (fun _ h => nomatch h) (by obtain ⟨h1, h2⟩ := hx2; exact ⟨h1, h2⟩)
  · exact JX_out (fun _ h => nomatch h) (by obtain ⟨h1, h2⟩ := hx1; exact ⟨h1, h2⟩)
set_option maxRecDepth 100000 in
set_option maxHeartbeats 4000000 in
theorem c_X6_commute {X : jX} (hs : X.1.stackTraces = false) {d : Nat} (hd : 12 ≤ d) {n : Nat} {e r q : Int32} (hn1 : 2 ≤ n) (hn2 : n ≤ 7) {w : List jC} (hS : SH (rX n e r q) w) (p0 : Int32) (p1 : Int32) {kc ks : Nat} (hkc : 2 ≤ kc) (hks : 12 ≤ ks) : jMet X mX6_commute d kc ks [.ref 0, .int p0, .int p1] w (pX (pI (fun v => ∃ k : Nat, v = nI k ∧ k < 2) (fun w' => w' = w)) (fun E w' => (E = "java/lang/IndexOutOfBoundsException") ∧ w' = w ++ [.inr (99, [])])) := by
  refine jMet_of hs (by decide +kernel) (Nat.le_of_ble_eq_true rfl) (L := [some (.ref 0), some (.int p0), some (.int p1)]) rfl ?_
  have hG : Fr kX w w := Fr.rf
  refine J_iload_n (pc := 0) dX6_commute_0 rfl rfl ?_
  refine J_callS (pc := 1) (as := [.int p0]) dX6_commute_1 fw_X6_needCell fl_X6_67 fs_X6_needCell rfl (c_X6_needCell hs (d := d - 1) (by omega) (w := w) p0 (kc := 1) (ks := 6) (Nat.le_refl _) (Nat.le_refl _)) (by omega) (by omega) (by omega) (st := []) (Nat.le_of_ble_eq_true rfl) rfl (kr_X (kr_V fun w1 hw1 => ?_)) (kx_X fun E1 w1 hx1 => ?_)
  · obtain ⟨rfl, hp1⟩ := hw1
    obtain ⟨b1, hb1, rfl⟩ := hp1
    refine J_iload_n (pc := 4) dX6_commute_4 rfl rfl ?_
    refine J_callS (pc := 5) (as := [.int p1]) dX6_commute_5 fw_X6_needCell fl_X6_67 fs_X6_needCell rfl (c_X6_needCell hs (d := d - 1) (by omega) (w := w) p1 (kc := 1) (ks := 6) (Nat.le_refl _) (Nat.le_refl _)) (by omega) (by omega) (by omega) (st := []) (Nat.le_of_ble_eq_true rfl) rfl (kr_X (kr_V fun w2 hw2 => ?_)) (kx_X fun E2 w2 hx2 => ?_)
    · obtain ⟨rfl, hp2⟩ := hw2
      obtain ⟨b2, hb2, rfl⟩ := hp2
      refine J_aload_n (pc := 8) dX6_commute_8 rfl rfl rfl ?_
      obtain ⟨_, hc3, rfl⟩ := hS 0 _ rfl
      refine J_get (pc := 9) (k := 0) dX6_commute_9 kC7 (by decide) ff_X6_9 hc3 rfl ?_
      refine J_iload_n (pc := 12) dX6_commute_12 rfl rfl ?_
      obtain ⟨_, hc4, xs4, rfl, hl4⟩ := hS 1 _ rfl
      refine J_iald (pc := 13) dX6_commute_13 hc4 (nI_in (by omega) (by omega)) (J_absI fun x5 => ?_)
      refine J_aload_n (pc := 14) dX6_commute_14 rfl rfl rfl ?_
      refine J_get (pc := 15) (k := 0) dX6_commute_15 kC7 (by decide) ff_X6_9 hc3 rfl ?_
      refine J_iload_n (pc := 18) dX6_commute_18 rfl rfl ?_
      refine J_iald (pc := 19) dX6_commute_19 hc4 (nI_in (by omega) (by omega)) (J_absI fun x6 => ?_)
      refine J_callS0 (pc := 20) (as := [.int x5, .int x6]) dX6_commute_20 fw_X2_both fl_X6_93 fs_X2_both rfl (c_X2_both hs (d := d - 1) (by omega) (w := w) x5 x6 (kc := 0) (ks := 0)) (by omega) (st := []) (Nat.le_of_ble_eq_true rfl) rfl (kr_P fun v7 hv7 => ?_) kx_I
      refine J_aload_n (pc := 23) dX6_commute_23 rfl rfl rfl ?_
      refine J_get (pc := 24) (k := 0) dX6_commute_24 kC7 (by decide) ff_X6_9 hc3 rfl ?_
      refine J_iload_n (pc := 27) dX6_commute_27 rfl rfl ?_
      refine J_iald (pc := 28) dX6_commute_28 hc4 (nI_in (by omega) (by omega)) (J_absI fun x8 => ?_)
      refine J_aload_n (pc := 29) dX6_commute_29 rfl rfl rfl ?_
      refine J_get (pc := 30) (k := 0) dX6_commute_30 kC7 (by decide) ff_X6_9 hc3 rfl ?_
      refine J_iload_n (pc := 33) dX6_commute_33 rfl rfl ?_
      refine J_iald (pc := 34) dX6_commute_34 hc4 (nI_in (by omega) (by omega)) (J_absI fun x9 => ?_)
      refine J_callS0 (pc := 35) (as := [.int x8, .int x9]) dX6_commute_35 fw_X2_both fl_X6_93 fs_X2_both rfl (c_X2_both hs (d := d - 1) (by omega) (w := w) x8 x9 (kc := 0) (ks := 0)) (by omega) (st := [.int v7]) (Nat.le_of_ble_eq_true rfl) rfl (kr_P fun v10 hv10 => ?_) kx_I
      refine J_icmp_ne (pc := 38) (tgt := 45) dX6_commute_38 (by decide) (fun ht11 => ?_) (fun hf12 => ?_)
      · refine J_iconst (pc := 45) (v := nI 0) dX6_commute_45 (by decide) ?_
        exact J_zret (pc := 46) dX6_commute_46 rfl (nar_b (by omega)) ⟨⟨0, rfl, by omega⟩, rfl⟩
      · refine J_iconst (pc := 41) (v := nI 1) dX6_commute_41 (by decide) ?_
        refine J_goto (pc := 42) (tgt := 46) dX6_commute_42 (by decide) ?_
        exact J_zret (pc := 46) dX6_commute_46 rfl (nar_b (by omega)) ⟨⟨1, rfl, by omega⟩, rfl⟩
    · exact JX_out (fun _ h => nomatch h) (by obtain ⟨h1, h2⟩ := hx2; exact ⟨h1, h2⟩)
  · exact JX_out (fun _ h => nomatch h) (by obtain ⟨h1, h2⟩ := hx1; exact ⟨h1, h2⟩)
set_option maxRecDepth 100000 in
set_option maxHeartbeats 4000000 in
theorem c_X6_size {X : jX} (hs : X.1.stackTraces = false) {d : Nat} (hd : 14 ≤ d) {n : Nat} {e r q : Int32} (hn1 : 2 ≤ n) (hn2 : n ≤ 7) {w : List jC} (hS : SH (rX n e r q) w) (p0 : Int32) (p1 : Int32) {kc ks : Nat} (hkc : 2 ≤ kc) (hks : 12 ≤ ks) : jMet X mX6_size d kc ks [.ref 0, .int p0, .int p1] w (pX (pI (fun _ => True) (fun w' => rS n e r q w w')) (fun E w' => (E = "java/lang/IndexOutOfBoundsException" ∨ E = "java/lang/IllegalArgumentException") ∧ rS n e r q w w')) := by
  refine jMet_of hs (by decide +kernel) (Nat.le_of_ble_eq_true rfl) (L := [some (.ref 0), some (.int p0), some (.int p1)]) rfl ?_
  have hG : Fr kX w w := Fr.rf
  refine J_iload_n (pc := 0) dX6_size_0 rfl rfl ?_
  refine J_callS (pc := 1) (as := [.int p1]) dX6_size_1 fw_X6_needCell fl_X6_67 fs_X6_needCell rfl (c_X6_needCell hs (d := d - 1) (by omega) (w := w) p1 (kc := 1) (ks := 6) (Nat.le_refl _) (Nat.le_refl _)) (by omega) (by omega) (by omega) (st := []) (Nat.le_of_ble_eq_true rfl) rfl (kr_X (kr_V fun w1 hw1 => ?_)) (kx_X fun E1 w1 hx1 => ?_)
  · obtain ⟨rfl, hp1⟩ := hw1
    obtain ⟨b1, hb1, rfl⟩ := hp1
    refine J_iload_n (pc := 4) dX6_size_4 rfl rfl ?_
    refine J_callS (pc := 5) (as := [.int p0]) dX6_size_5 fw_X6_needSet fl_X6_131 fs_X6_needSet rfl (c_X6_needSet hs (d := d - 1) (by omega) (w := w) p0 (kc := 1) (ks := 6) (Nat.le_refl _) (Nat.le_refl _)) (by omega) (by omega) (by omega) (st := []) (Nat.le_of_ble_eq_true rfl) rfl (kr_X (kr_V fun w2 hw2 => ?_)) (kx_X fun E2 w2 hx2 => ?_)
    · subst hw2
      refine J_aload_n (pc := 8) dX6_size_8 rfl rfl rfl ?_
      obtain ⟨_, hc3, rfl⟩ := hS 0 _ rfl
      refine J_get (pc := 9) (k := 1) dX6_size_9 kC7 (by decide) ff_X6_16 hc3 rfl ?_
      refine J_aload_n (pc := 12) dX6_size_12 rfl rfl rfl ?_
      refine J_get (pc := 13) (k := 0) dX6_size_13 kC7 (by decide) ff_X6_9 hc3 rfl ?_
      refine J_iload_n (pc := 16) dX6_size_16 rfl rfl ?_
      refine J_aload_n (pc := 17) dX6_size_17 rfl rfl rfl ?_
      refine J_get (pc := 18) (k := 0) dX6_size_18 kC7 (by decide) ff_X6_9 hc3 rfl ?_
      refine J_iload_n (pc := 21) dX6_size_21 rfl rfl ?_
      obtain ⟨_, hc4, xs4, rfl, hl4⟩ := hS 1 _ rfl
      refine J_iald (pc := 22) dX6_size_22 hc4 (nI_in (by omega) (by omega)) (J_absI fun x5 => ?_)
      refine J_aload_n (pc := 23) dX6_size_23 rfl rfl rfl ?_
      refine J_get (pc := 24) (k := 5) dX6_size_24 kC7 (by decide) ff_X6_41 hc3 rfl ?_
      obtain ⟨_, hc7, ka7, kf7, kb7, kg7, rfl, hb7_0, hb7_1⟩ := hS 2 _ rfl
      refine J_callV0 (pc := 27) (as := [.ref 1, .int p0, .int x5, .int (nI n)]) dX6_size_27 fw_X0_raise fl_X6_134 fm_X0_raise fe_X0_raise hc7 (by decide) rfl rfl rfl (c_X0_raise hs (d := d - 1) (by omega) (e := e) (r := r) (q := q) hn1 hn2 hS (w := w) p0 x5 (kc := 0) (ks := 0)) (by omega) (st := []) (Nat.le_of_ble_eq_true rfl) rfl (kr_V fun w6 hw6 => ?_) kx_V
      obtain ⟨hS6, hF6⟩ := hw6
      have hG6 := hG.tr hF6
      refine J_aload_n (pc := 30) dX6_size_30 rfl rfl rfl ?_
      obtain ⟨_, hc8, rfl⟩ := hS6 0 _ rfl
      refine J_get (pc := 31) (k := 1) dX6_size_31 kC7 (by decide) ff_X6_16 hc8 rfl ?_
      obtain ⟨_, hc10, ka10, kf10, kb10, kg10, rfl, hb10_0, hb10_1⟩ := hS6 2 _ rfl
      refine J_callV0 (pc := 34) (as := []) dX6_size_34 fw_X0_total fl_X6_138 fm_X0_total fe_X0_total hc10 (by decide) rfl rfl rfl (c_X0_total hs (d := d - 1) (by omega) (e := e) (r := r) (q := q) hn1 hn2 hS6 (w := w6)  (kc := 0) (ks := 0)) (by omega) (st := []) (Nat.le_of_ble_eq_true rfl) rfl (kr_P fun v9 hv9 => ?_) kx_I
      exact J_iret (pc := 37) dX6_size_37 rfl ⟨trivial, ⟨hS6, hG6⟩⟩
    · exact JX_out (fun _ h => nomatch h) (by obtain ⟨h1, h2⟩ := hx2; exact ⟨Or.inr h1, by subst h2; exact ⟨hS.push, hG.tr Fr.push⟩⟩)
  · exact JX_out (fun _ h => nomatch h) (by obtain ⟨h1, h2⟩ := hx1; exact ⟨Or.inl h1, by subst h2; exact ⟨hS.push, hG.tr Fr.push⟩⟩)
set_option maxRecDepth 100000 in
set_option maxHeartbeats 4000000 in
theorem c_X6_reach {X : jX} (hs : X.1.stackTraces = false) {d : Nat} (hd : 14 ≤ d) {n : Nat} {e r q : Int32} (hn1 : 2 ≤ n) (hn2 : n ≤ 7) {w : List jC} (hS : SH (rX n e r q) w) (p0 : Int32) (p1 : Int32) (p2 : Int32) {kc ks : Nat} (hkc : 3 ≤ kc) (hks : 18 ≤ ks) : jMet X mX6_reach d kc ks [.ref 0, .int p0, .int p1, .int p2] w (pX (pI (fun _ => True) (fun w' => rS n e r q w w')) (fun E w' => (E = "java/lang/IndexOutOfBoundsException" ∨ E = "java/lang/IllegalArgumentException") ∧ rS n e r q w w')) := by
  refine jMet_of hs (by decide +kernel) (Nat.le_of_ble_eq_true rfl) (L := [some (.ref 0), some (.int p0), some (.int p1), some (.int p2)]) rfl ?_
  have hG : Fr kX w w := Fr.rf
  refine J_iload_n (pc := 0) dX6_reach_0 rfl rfl ?_
  refine J_callS (pc := 1) (as := [.int p1]) dX6_reach_1 fw_X6_needCell fl_X6_67 fs_X6_needCell rfl (c_X6_needCell hs (d := d - 1) (by omega) (w := w) p1 (kc := 1) (ks := 6) (Nat.le_refl _) (Nat.le_refl _)) (by omega) (by omega) (by omega) (st := []) (Nat.le_of_ble_eq_true rfl) rfl (kr_X (kr_V fun w1 hw1 => ?_)) (kx_X fun E1 w1 hx1 => ?_)
  · obtain ⟨rfl, hp1⟩ := hw1
    obtain ⟨b1, hb1, rfl⟩ := hp1
    refine J_aload_n (pc := 4) dX6_reach_4 rfl rfl rfl ?_
    refine J_iload_n (pc := 5) dX6_reach_5 rfl rfl ?_
    obtain ⟨_, hc3, rfl⟩ := hS 0 _ rfl
    refine J_callV (pc := 6) (as := [.int p2]) dX6_reach_6 fw_X6_needPoint fl_X6_86 fm_X6_needPoint fe_X6_needPoint hc3 (by decide) rfl rfl rfl (c_X6_needPoint hs (d := d - 1) (by omega) (e := e) (r := r) (q := q) hn1 hn2 hS (w := w) p2 (kc := 1) (ks := 6) (Nat.le_refl _) (Nat.le_refl _)) (by omega) (by omega) (by omega) (st := []) (Nat.le_of_ble_eq_true rfl) rfl (kr_X (kr_V fun w2 hw2 => ?_)) (kx_X fun E2 w2 hx2 => ?_)
    · obtain ⟨rfl, hp2⟩ := hw2
      obtain ⟨b2, hb2, rfl⟩ := hp2
      refine J_iload_n (pc := 9) dX6_reach_9 rfl rfl ?_
      refine J_callS (pc := 10) (as := [.int p0]) dX6_reach_10 fw_X6_needSet fl_X6_131 fs_X6_needSet rfl (c_X6_needSet hs (d := d - 1) (by omega) (w := w) p0 (kc := 1) (ks := 6) (Nat.le_refl _) (Nat.le_refl _)) (by omega) (by omega) (by omega) (st := []) (Nat.le_of_ble_eq_true rfl) rfl (kr_X (kr_V fun w4 hw4 => ?_)) (kx_X fun E4 w4 hx4 => ?_)
      · subst hw4
        refine J_aload_n (pc := 13) dX6_reach_13 rfl rfl rfl ?_
        refine J_get (pc := 14) (k := 1) dX6_reach_14 kC7 (by decide) ff_X6_16 hc3 rfl ?_
        refine J_aload_n (pc := 17) dX6_reach_17 rfl rfl rfl ?_
        refine J_get (pc := 18) (k := 0) dX6_reach_18 kC7 (by decide) ff_X6_9 hc3 rfl ?_
        refine J_iload_n (pc := 21) dX6_reach_21 rfl rfl ?_
        refine J_aload_n (pc := 22) dX6_reach_22 rfl rfl rfl ?_
        refine J_get (pc := 23) (k := 0) dX6_reach_23 kC7 (by decide) ff_X6_9 hc3 rfl ?_
        refine J_iload_n (pc := 26) dX6_reach_26 rfl rfl ?_
        obtain ⟨_, hc5, xs5, rfl, hl5⟩ := hS 1 _ rfl
        refine J_iald (pc := 27) dX6_reach_27 hc5 (nI_in (by omega) (by omega)) (J_absI fun x6 => ?_)
        refine J_aload_n (pc := 28) dX6_reach_28 rfl rfl rfl ?_
        refine J_get (pc := 29) (k := 5) dX6_reach_29 kC7 (by decide) ff_X6_41 hc3 rfl ?_
        obtain ⟨_, hc8, ka8, kf8, kb8, kg8, rfl, hb8_0, hb8_1⟩ := hS 2 _ rfl
        refine J_callV0 (pc := 32) (as := [.ref 1, .int p0, .int x6, .int (nI n)]) dX6_reach_32 fw_X0_raise fl_X6_134 fm_X0_raise fe_X0_raise hc8 (by decide) rfl rfl rfl (c_X0_raise hs (d := d - 1) (by omega) (e := e) (r := r) (q := q) hn1 hn2 hS (w := w) p0 x6 (kc := 0) (ks := 0)) (by omega) (st := []) (Nat.le_of_ble_eq_true rfl) rfl (kr_V fun w7 hw7 => ?_) kx_V
        obtain ⟨hS7, hF7⟩ := hw7
        have hG7 := hG.tr hF7
        refine J_aload_n (pc := 35) dX6_reach_35 rfl rfl rfl ?_
        obtain ⟨_, hc9, rfl⟩ := hS7 0 _ rfl
        refine J_get (pc := 36) (k := 1) dX6_reach_36 kC7 (by decide) ff_X6_16 hc9 rfl ?_
        refine J_iload_n (pc := 39) dX6_reach_39 rfl rfl ?_
        obtain ⟨_, hc11, ka11, kf11, kb11, kg11, rfl, hb11_0, hb11_1⟩ := hS7 2 _ rfl
        refine J_callV0 (pc := 40) (as := [.int (nI b2)]) dX6_reach_40 fw_X0_reachAt fl_X6_170 fm_X0_reachAt fe_X0_reachAt hc11 (by decide) rfl rfl rfl (c_X0_reachAt hs (d := d - 1) (by omega) (e := e) (r := r) (q := q) hn1 hn2 hS7 (w := w7) (nI b2) (kc := 0) (ks := 0)) (by omega) (st := []) (Nat.le_of_ble_eq_true rfl) rfl (kr_P fun v10 hv10 => ?_) kx_I
        exact J_iret (pc := 43) dX6_reach_43 rfl ⟨trivial, ⟨hS7, hG7⟩⟩
      · exact JX_out (fun _ h => nomatch h) (by obtain ⟨h1, h2⟩ := hx4; exact ⟨Or.inr h1, by subst h2; exact ⟨hS.push, hG.tr Fr.push⟩⟩)
    · exact JX_out (fun _ h => nomatch h) (by obtain ⟨h1, h2⟩ := hx2; exact ⟨Or.inl h1, by subst h2; exact ⟨hS.push, hG.tr Fr.push⟩⟩)
  · exact JX_out (fun _ h => nomatch h) (by obtain ⟨h1, h2⟩ := hx1; exact ⟨Or.inl h1, by subst h2; exact ⟨hS.push, hG.tr Fr.push⟩⟩)
set_option maxRecDepth 100000 in
set_option maxHeartbeats 4000000 in
theorem c_X6_isIn {X : jX} (hs : X.1.stackTraces = false) {d : Nat} (hd : 14 ≤ d) {n : Nat} {e r q : Int32} (hn1 : 2 ≤ n) (hn2 : n ≤ 7) {w : List jC} (hS : SH (rX n e r q) w) (p0 : Int32) (p1 : Int32) (p2 : Int32) {kc ks : Nat} (hkc : 3 ≤ kc) (hks : 18 ≤ ks) : jMet X mX6_isIn d kc ks [.ref 0, .int p0, .int p1, .int p2] w (pX (pI (fun v => ∃ k : Nat, v = nI k ∧ k < 2) (fun w' => rS n e r q w w')) (fun E w' => (E = "java/lang/IndexOutOfBoundsException" ∨ E = "java/lang/IllegalArgumentException") ∧ rS n e r q w w')) := by
  refine jMet_of hs (by decide +kernel) (Nat.le_of_ble_eq_true rfl) (L := [some (.ref 0), some (.int p0), some (.int p1), some (.int p2)]) rfl ?_
  have hG : Fr kX w w := Fr.rf
  refine J_iload_n (pc := 0) dX6_isIn_0 rfl rfl ?_
  refine J_callS (pc := 1) (as := [.int p1]) dX6_isIn_1 fw_X6_needCell fl_X6_67 fs_X6_needCell rfl (c_X6_needCell hs (d := d - 1) (by omega) (w := w) p1 (kc := 1) (ks := 6) (Nat.le_refl _) (Nat.le_refl _)) (by omega) (by omega) (by omega) (st := []) (Nat.le_of_ble_eq_true rfl) rfl (kr_X (kr_V fun w1 hw1 => ?_)) (kx_X fun E1 w1 hx1 => ?_)
  · obtain ⟨rfl, hp1⟩ := hw1
    obtain ⟨b1, hb1, rfl⟩ := hp1
    refine J_iload_n (pc := 4) dX6_isIn_4 rfl rfl ?_
    refine J_callS (pc := 5) (as := [.int p0]) dX6_isIn_5 fw_X6_needSet fl_X6_131 fs_X6_needSet rfl (c_X6_needSet hs (d := d - 1) (by omega) (w := w) p0 (kc := 1) (ks := 6) (Nat.le_refl _) (Nat.le_refl _)) (by omega) (by omega) (by omega) (st := []) (Nat.le_of_ble_eq_true rfl) rfl (kr_X (kr_V fun w2 hw2 => ?_)) (kx_X fun E2 w2 hx2 => ?_)
    · subst hw2
      refine J_iload_n (pc := 8) dX6_isIn_8 rfl rfl ?_
      refine J_iconst (pc := 9) (v := nI 0) dX6_isIn_9 (by decide) ?_
      refine J_iconst (pc := 10) (v := nI 1) dX6_isIn_10 (by decide) ?_
      refine J_callS (pc := 11) (as := [.int p2, .int (nI 0), .int (nI 1)]) dX6_isIn_11 fw_X6_needBetween fl_X6_63 fs_X6_needBetween rfl (c_X6_needBetween hs (d := d - 1) (by omega) (w := w) p2 (nI 0) (nI 1) (kc := 1) (ks := 6) (Nat.le_refl _) (Nat.le_refl _)) (by omega) (by omega) (by omega) (st := []) (Nat.le_of_ble_eq_true rfl) rfl (kr_X (kr_V fun w3 hw3 => ?_)) (kx_X fun E3 w3 hx3 => ?_)
      · obtain ⟨rfl, hpa3, hpb3⟩ := hw3
        obtain ⟨b3, hb3, hc3, rfl⟩ := nI_btw hpa3 hpb3 (by omega) (by omega)
        refine J_iload_n (pc := 14) dX6_isIn_14 rfl rfl ?_
        refine J_if_neN (pc := 15) (tgt := 50) dX6_isIn_15 (by decide) (by omega) (fun ht4 => ?_) (fun hf5 => ?_)
        · refine J_aload_n (pc := 50) dX6_isIn_50 rfl rfl rfl ?_
          obtain ⟨_, hc6, rfl⟩ := hS 0 _ rfl
          refine J_get (pc := 51) (k := 2) dX6_isIn_51 kC7 (by decide) ff_X6_23 hc6 rfl ?_
          refine J_aload_n (pc := 54) dX6_isIn_54 rfl rfl rfl ?_
          refine J_get (pc := 55) (k := 0) dX6_isIn_55 kC7 (by decide) ff_X6_9 hc6 rfl ?_
          refine J_iload_n (pc := 58) dX6_isIn_58 rfl rfl ?_
          refine J_aload_n (pc := 59) dX6_isIn_59 rfl rfl rfl ?_
          refine J_get (pc := 60) (k := 5) dX6_isIn_60 kC7 (by decide) ff_X6_41 hc6 rfl ?_
          obtain ⟨_, hc8, ka8, rfl, hb8_0⟩ := hS 8 _ rfl
          refine J_callV0 (pc := 63) (as := [.ref 1, .int p0, .int (nI n)]) dX6_isIn_63 fw_X5_goThrough fl_X6_177 fm_X5_goThrough fe_X5_goThrough hc8 (by decide) rfl rfl rfl (c_X5_goThrough hs (d := d - 1) (by omega) (e := e) (r := r) (q := q) hn1 hn2 hS (w := w) p0 (kc := 0) (ks := 0)) (by omega) (st := []) (Nat.le_of_ble_eq_true rfl) rfl (kr_V fun w7 hw7 => ?_) kx_V
          obtain ⟨hS7, hF7⟩ := hw7
          have hG7 := hG.tr hF7
          refine J_aload_n (pc := 66) dX6_isIn_66 rfl rfl rfl ?_
          obtain ⟨_, hc9, rfl⟩ := hS7 0 _ rfl
          refine J_get (pc := 67) (k := 2) dX6_isIn_67 kC7 (by decide) ff_X6_23 hc9 rfl ?_
          refine J_aload_n (pc := 70) dX6_isIn_70 rfl rfl rfl ?_
          refine J_get (pc := 71) (k := 0) dX6_isIn_71 kC7 (by decide) ff_X6_9 hc9 rfl ?_
          refine J_iload_n (pc := 74) dX6_isIn_74 rfl rfl ?_
          obtain ⟨_, hc10, xs10, rfl, hl10⟩ := hS7 1 _ rfl
          refine J_iald (pc := 75) dX6_isIn_75 hc10 (nI_in (by omega) (by omega)) (J_absI fun x11 => ?_)
          obtain ⟨_, hc13, ka13, rfl, hb13_0⟩ := hS7 8 _ rfl
          refine J_callV0 (pc := 76) (as := [.int x11]) dX6_isIn_76 fw_X5_meets fl_X6_181 fm_X5_meets fe_X5_meets hc13 (by decide) rfl rfl rfl (c_X5_meets hs (d := d - 1) (by omega) (e := e) (r := r) (q := q) hn1 hn2 hS7 (w := w7) x11 (kc := 0) (ks := 0)) (by omega) (st := []) (Nat.le_of_ble_eq_true rfl) rfl (kr_P fun v12 hv12 => ?_) kx_I
          obtain ⟨k12, rfl, hk12⟩ := hv12
          exact J_zret (pc := 79) dX6_isIn_79 rfl (nar_b (by omega)) ⟨⟨k12, rfl, by omega⟩, ⟨hS7, hG7⟩⟩
        · refine J_aload_n (pc := 18) dX6_isIn_18 rfl rfl rfl ?_
          obtain ⟨_, hc14, rfl⟩ := hS 0 _ rfl
          refine J_get (pc := 19) (k := 1) dX6_isIn_19 kC7 (by decide) ff_X6_16 hc14 rfl ?_
          refine J_aload_n (pc := 22) dX6_isIn_22 rfl rfl rfl ?_
          refine J_get (pc := 23) (k := 0) dX6_isIn_23 kC7 (by decide) ff_X6_9 hc14 rfl ?_
          refine J_iload_n (pc := 26) dX6_isIn_26 rfl rfl ?_
          refine J_ldc (pc := 27) (v := nI 1754760) dX6_isIn_27 (by have := fk_X6_56; exact this) ?_
          refine J_aload_n (pc := 29) dX6_isIn_29 rfl rfl rfl ?_
          refine J_get (pc := 30) (k := 5) dX6_isIn_30 kC7 (by decide) ff_X6_41 hc14 rfl ?_
          obtain ⟨_, hc16, ka16, kf16, kb16, kg16, rfl, hb16_0, hb16_1⟩ := hS 2 _ rfl
          refine J_callV0 (pc := 33) (as := [.ref 1, .int p0, .int (nI 1754760), .int (nI n)]) dX6_isIn_33 fw_X0_raise fl_X6_134 fm_X0_raise fe_X0_raise hc16 (by decide) rfl rfl rfl (c_X0_raise hs (d := d - 1) (by omega) (e := e) (r := r) (q := q) hn1 hn2 hS (w := w) p0 (nI 1754760) (kc := 0) (ks := 0)) (by omega) (st := []) (Nat.le_of_ble_eq_true rfl) rfl (kr_V fun w15 hw15 => ?_) kx_V
          obtain ⟨hS15, hF15⟩ := hw15
          have hG15 := hG.tr hF15
          refine J_aload_n (pc := 36) dX6_isIn_36 rfl rfl rfl ?_
          obtain ⟨_, hc17, rfl⟩ := hS15 0 _ rfl
          refine J_get (pc := 37) (k := 1) dX6_isIn_37 kC7 (by decide) ff_X6_16 hc17 rfl ?_
          refine J_aload_n (pc := 40) dX6_isIn_40 rfl rfl rfl ?_
          refine J_get (pc := 41) (k := 0) dX6_isIn_41 kC7 (by decide) ff_X6_9 hc17 rfl ?_
          refine J_iload_n (pc := 44) dX6_isIn_44 rfl rfl ?_
          obtain ⟨_, hc18, xs18, rfl, hl18⟩ := hS15 1 _ rfl
          refine J_iald (pc := 45) dX6_isIn_45 hc18 (nI_in (by omega) (by omega)) (J_absI fun x19 => ?_)
          obtain ⟨_, hc21, ka21, kf21, kb21, kg21, rfl, hb21_0, hb21_1⟩ := hS15 2 _ rfl
          refine J_callV0 (pc := 46) (as := [.int x19]) dX6_isIn_46 fw_X0_holds fl_X6_173 fm_X0_holds fe_X0_holds hc21 (by decide) rfl rfl rfl (c_X0_holds hs (d := d - 1) (by omega) (e := e) (r := r) (q := q) hn1 hn2 hS15 (w := w15) x19 (kc := 0) (ks := 0)) (by omega) (st := []) (Nat.le_of_ble_eq_true rfl) rfl (kr_P fun v20 hv20 => ?_) kx_I
          obtain ⟨k20, rfl, hk20⟩ := hv20
          exact J_zret (pc := 49) dX6_isIn_49 rfl (nar_b (by omega)) ⟨⟨k20, rfl, by omega⟩, ⟨hS15, hG15⟩⟩
      · exact JX_out (fun _ h => nomatch h) (by obtain ⟨h1, h2⟩ := hx3; exact ⟨Or.inr h1, by subst h2; exact ⟨hS.push, hG.tr Fr.push⟩⟩)
    · exact JX_out (fun _ h => nomatch h) (by obtain ⟨h1, h2⟩ := hx2; exact ⟨Or.inr h1, by subst h2; exact ⟨hS.push, hG.tr Fr.push⟩⟩)
  · exact JX_out (fun _ h => nomatch h) (by obtain ⟨h1, h2⟩ := hx1; exact ⟨Or.inl h1, by subst h2; exact ⟨hS.push, hG.tr Fr.push⟩⟩)
