/-! contracts of the class -/
set_option maxRecDepth 100000 in
set_option maxHeartbeats 4000000 in
theorem c_X6_match {X : jX} (hs : X.1.stackTraces = false) {d : Nat} (hd : 12 ≤ d) {n : Nat} {e r q : Int32} (hn1 : 2 ≤ n) (hn2 : n ≤ 7) {w : List jC} (hS : SH (rX n e r q) w) (p0 : Int32) (p1 : Int32) (p2 : Int32) {kc ks : Nat} (hkc : 3 ≤ kc) (hks : 18 ≤ ks) : jMet X mX6_match d kc ks [.ref 0, .int p0, .int p1, .int p2] w (pX (pI (fun _ => True) (fun w' => rT n q w w')) (fun E w' => (E = "java/lang/IndexOutOfBoundsException") ∧ rT n q w w')) := by
  refine jMet_of hs (by decide +kernel) (Nat.le_of_ble_eq_true rfl) (L := [some (.ref 0), some (.int p0), some (.int p1), some (.int p2)]) rfl ?_
  have hG : Fr kX w w := Fr.rf
  refine J_iload_n (pc := 0) dX6_match_0 rfl rfl ?_
  refine J_callS (pc := 1) (M := mX6_match) (as := [.int p0]) dX6_match_1 fw_X6_needCell fl_X6_67 fs_X6_needCell rfl (c_X6_needCell hs (d := d - 1) (by omega) (w := w) p0 (kc := 1) (ks := 6) (Nat.le_refl _) (Nat.le_refl _)) (by omega) (by omega) (by omega) (st := []) (Nat.le_of_ble_eq_true rfl) rfl (kr_X (kr_V fun w1 hw1 => ?_)) (kx_X fun E1 w1 hx1 => ?_)
  · obtain ⟨hq1, hp1⟩ := hw1
    obtain rfl := hq1.symm
    obtain ⟨b1, hb1, rfl⟩ := hp1
    refine J_iload_n (pc := 4) dX6_match_4 rfl rfl ?_
    refine J_callS (pc := 5) (M := mX6_match) (as := [.int p1]) dX6_match_5 fw_X6_needCell fl_X6_67 fs_X6_needCell rfl (c_X6_needCell hs (d := d - 1) (by omega) (w := w) p1 (kc := 1) (ks := 6) (Nat.le_refl _) (Nat.le_refl _)) (by omega) (by omega) (by omega) (st := []) (Nat.le_of_ble_eq_true rfl) rfl (kr_X (kr_V fun w2 hw2 => ?_)) (kx_X fun E2 w2 hx2 => ?_)
    · obtain ⟨hq2, hp2⟩ := hw2
      obtain rfl := hq2.symm
      obtain ⟨b2, hb2, rfl⟩ := hp2
      refine J_iload_n (pc := 8) dX6_match_8 rfl rfl ?_
      refine J_callS (pc := 9) (M := mX6_match) (as := [.int p2]) dX6_match_9 fw_X6_needCell fl_X6_67 fs_X6_needCell rfl (c_X6_needCell hs (d := d - 1) (by omega) (w := w) p2 (kc := 1) (ks := 6) (Nat.le_refl _) (Nat.le_refl _)) (by omega) (by omega) (by omega) (st := []) (Nat.le_of_ble_eq_true rfl) rfl (kr_X (kr_V fun w3 hw3 => ?_)) (kx_X fun E3 w3 hx3 => ?_)
      · obtain ⟨hq3, hp3⟩ := hw3
        obtain rfl := hq3.symm
        obtain ⟨b3, hb3, rfl⟩ := hp3
        refine J_aload_n (pc := 12) dX6_match_12 rfl rfl rfl ?_
        obtain ⟨_, hc4, rfl⟩ := hS 0 _ rfl
        refine J_get (pc := 13) (k := 0) dX6_match_13 kC7 (by decide) ff_X6_9 hc4 rfl ?_
        refine J_iload_n (pc := 16) dX6_match_16 rfl rfl ?_
        obtain ⟨_, hc5, xs5, rfl, hl5⟩ := hS 1 _ rfl
        refine J_iald (pc := 17) dX6_match_17 hc5 (nI_in (by omega) (by omega)) (J_absI fun x6 => ?_)
        refine J_aload_n (pc := 18) dX6_match_18 rfl rfl rfl ?_
        refine J_get (pc := 19) (k := 0) dX6_match_19 kC7 (by decide) ff_X6_9 hc4 rfl ?_
        refine J_iload_n (pc := 22) dX6_match_22 rfl rfl ?_
        refine J_iald (pc := 23) dX6_match_23 hc5 (nI_in (by omega) (by omega)) (J_absI fun x7 => ?_)
        refine J_callS0 (pc := 24) (M := mX6_match) (as := [.int x6, .int x7]) dX6_match_24 fw_X2_haveLikeRings fl_X6_120 fs_X2_haveLikeRings rfl (c_X2_haveLikeRings hs (d := d - 1) (by omega) (w := w) x6 x7 (kc := 0) (ks := 0)) (by omega) (st := []) (Nat.le_of_ble_eq_true rfl) rfl (kr_P fun v8 hv8 => ?_) kx_I
        obtain ⟨k8, rfl, hk8⟩ := hv8
        refine J_if_neN (pc := 27) (tgt := 35) dX6_match_27 (by decide) (by omega) (fun ht9 => ?_) (fun hf10 => ?_)
        · refine J_aload_n (pc := 35) dX6_match_35 rfl rfl rfl ?_
          refine J_iload_n (pc := 36) dX6_match_36 rfl rfl ?_
          refine J_aload_n (pc := 37) dX6_match_37 rfl rfl rfl ?_
          refine J_get (pc := 38) (k := 0) dX6_match_38 kC7 (by decide) ff_X6_9 hc4 rfl ?_
          refine J_iload_n (pc := 41) dX6_match_41 rfl rfl ?_
          refine J_iald (pc := 42) dX6_match_42 hc5 (nI_in (by omega) (by omega)) (J_absI fun x11 => ?_)
          refine J_aload_n (pc := 43) dX6_match_43 rfl rfl rfl ?_
          refine J_get (pc := 44) (k := 0) dX6_match_44 kC7 (by decide) ff_X6_9 hc4 rfl ?_
          refine J_iload_n (pc := 47) dX6_match_47 rfl rfl ?_
          refine J_iald (pc := 48) dX6_match_48 hc5 (nI_in (by omega) (by omega)) (J_absI fun x12 => ?_)
          refine J_aload_n (pc := 49) dX6_match_49 rfl rfl rfl ?_
          refine J_get (pc := 50) (k := 5) dX6_match_50 kC7 (by decide) ff_X6_41 hc4 rfl ?_
          refine J_callS0 (pc := 53) (M := mX6_match) (as := [.int x11, .int x12, .int (nI n)]) dX6_match_53 fw_X2_firstRenamer fl_X6_128 fs_X2_firstRenamer rfl (c_X2_firstRenamer hs (d := d - 1) (by omega) (w := w) x11 x12 n (by omega) (kc := 0) (ks := 0)) (by omega) (st := [.int (nI b3), .ref 0]) (Nat.le_of_ble_eq_true rfl) rfl (kr_P fun v13 hv13 => ?_) kx_I
          refine J_callV0 (pc := 56) (M := mX6_match) (as := [.int (nI b3), .int v13]) dX6_match_56 fw_X6_keepForNumber fl_X6_106 fm_X6_keepForNumber fe_X6_keepForNumber hc4 (by decide) rfl rfl rfl (c_X6_keepForNumber hs (d := d - 1) (by omega) (e := e) (r := r) (q := q) hn1 hn2 hS (w := w) b3 v13 (by omega) (kc := 0) (ks := 0)) (by omega) (st := []) (Nat.le_of_ble_eq_true rfl) rfl (kr_I fun v14 w14 hv14 hw14 => ?_) kx_I
          obtain ⟨e14, r14, hS14, hF14⟩ := hw14
          have hG14 := hG.tr hF14
          exact J_iret (pc := 59) dX6_match_59 rfl ⟨trivial, ⟨_, _, hS14, hG14⟩⟩
        · refine J_aload_n (pc := 30) dX6_match_30 rfl rfl rfl ?_
          refine J_callV0 (pc := 31) (M := mX6_match) (as := []) dX6_match_31 fw_X6_cannot fl_X6_124 fm_X6_cannot fe_X6_cannot hc4 (by decide) rfl rfl rfl (c_X6_cannot hs (d := d - 1) (by omega) (e := e) (r := r) (q := q) hn1 hn2 hS (w := w)  (kc := 0) (ks := 0)) (by omega) (st := []) (Nat.le_of_ble_eq_true rfl) rfl (kr_I fun v15 w15 hv15 hw15 => ?_) kx_I
          obtain ⟨e15, r15, hS15, hF15⟩ := hw15
          have hG15 := hG.tr hF15
          exact J_iret (pc := 34) dX6_match_34 rfl ⟨trivial, ⟨_, _, hS15, hG15⟩⟩
      · exact JX_out (fun _ h => nomatch h) (by obtain ⟨h1, h2⟩ := hx3; exact ⟨h1, by subst h2; exact ⟨_, _, hS.push, hG.tr Fr.push⟩⟩)
    · exact JX_out (fun _ h => nomatch h) (by obtain ⟨h1, h2⟩ := hx2; exact ⟨h1, by subst h2; exact ⟨_, _, hS.push, hG.tr Fr.push⟩⟩)
  · exact JX_out (fun _ h => nomatch h) (by obtain ⟨h1, h2⟩ := hx1; exact ⟨h1, by subst h2; exact ⟨_, _, hS.push, hG.tr Fr.push⟩⟩)
set_option maxRecDepth 100000 in
set_option maxHeartbeats 4000000 in
theorem c_X6_nth {X : jX} (hs : X.1.stackTraces = false) {d : Nat} (hd : 14 ≤ d) {n : Nat} {e r q : Int32} (hn1 : 2 ≤ n) (hn2 : n ≤ 7) {w : List jC} (hS : SH (rX n e r q) w) (p0 : Int32) (p1 : Int32) (p2 : Int32) (p3 : Int32) {kc ks : Nat} (hkc : 4 ≤ kc) (hks : 24 ≤ ks) : jMet X mX6_nth d kc ks [.ref 0, .int p0, .int p1, .int p2, .int p3] w (pX (pI (fun _ => True) (fun w' => rT n q w w')) (fun E w' => (E = "java/lang/IndexOutOfBoundsException" ∨ E = "java/lang/IllegalArgumentException") ∧ rT n q w w')) := by
  refine jMet_of hs (by decide +kernel) (Nat.le_of_ble_eq_true rfl) (L := [some (.ref 0), some (.int p0), some (.int p1), some (.int p2), some (.int p3)]) rfl ?_
  have hG : Fr kX w w := Fr.rf
  refine J_iload_n (pc := 0) dX6_nth_0 rfl rfl ?_
  refine J_callS (pc := 1) (M := mX6_nth) (as := [.int p1]) dX6_nth_1 fw_X6_needCell fl_X6_67 fs_X6_needCell rfl (c_X6_needCell hs (d := d - 1) (by omega) (w := w) p1 (kc := 1) (ks := 6) (Nat.le_refl _) (Nat.le_refl _)) (by omega) (by omega) (by omega) (st := []) (Nat.le_of_ble_eq_true rfl) rfl (kr_X (kr_V fun w1 hw1 => ?_)) (kx_X fun E1 w1 hx1 => ?_)
  · obtain ⟨hq1, hp1⟩ := hw1
    obtain rfl := hq1.symm
    obtain ⟨b1, hb1, rfl⟩ := hp1
    refine J_iload (pc := 4) dX6_nth_4 rfl ?_
    refine J_callS (pc := 6) (M := mX6_nth) (as := [.int p3]) dX6_nth_6 fw_X6_needCell fl_X6_67 fs_X6_needCell rfl (c_X6_needCell hs (d := d - 1) (by omega) (w := w) p3 (kc := 1) (ks := 6) (Nat.le_refl _) (Nat.le_refl _)) (by omega) (by omega) (by omega) (st := []) (Nat.le_of_ble_eq_true rfl) rfl (kr_X (kr_V fun w2 hw2 => ?_)) (kx_X fun E2 w2 hx2 => ?_)
    · obtain ⟨hq2, hp2⟩ := hw2
      obtain rfl := hq2.symm
      obtain ⟨b2, hb2, rfl⟩ := hp2
      refine J_iload_n (pc := 9) dX6_nth_9 rfl rfl ?_
      refine J_callS (pc := 10) (M := mX6_nth) (as := [.int p0]) dX6_nth_10 fw_X6_needSet fl_X6_131 fs_X6_needSet rfl (c_X6_needSet hs (d := d - 1) (by omega) (w := w) p0 (kc := 1) (ks := 6) (Nat.le_refl _) (Nat.le_refl _)) (by omega) (by omega) (by omega) (st := []) (Nat.le_of_ble_eq_true rfl) rfl (kr_X (kr_V fun w3 hw3 => ?_)) (kx_X fun E3 w3 hx3 => ?_)
      · obtain rfl := hw3.symm
        refine J_iload_n (pc := 13) dX6_nth_13 rfl rfl ?_
        refine J_if_lt (pc := 14) (tgt := 21) dX6_nth_14 (by decide) (fun ht4 => ?_) (fun hf5 => ?_)
        · refine J_iconst (pc := 21) (v := nI 0) dX6_nth_21 (by decide) ?_
          refine J_callS (pc := 22) (M := mX6_nth) (as := [.int (nI 0)]) dX6_nth_22 fw_X6_need fl_X6_99 fs_X6_need rfl (c_X6_need hs (d := d - 1) (by omega) (w := w) 0 (by omega) (kc := 1) (ks := 6) (Nat.le_refl _) (Nat.le_refl _)) (by omega) (by omega) (by omega) (st := []) (Nat.le_of_ble_eq_true rfl) rfl (kr_X (kr_V fun w6 hw6 => ?_)) (kx_X fun E6 w6 hx6 => ?_)
          · exact absurd rfl hw6.2
          · exact JX_out (fun _ h => nomatch h) (by obtain ⟨h1, h2⟩ := hx6; exact ⟨Or.inr h1, by subst h2; exact ⟨_, _, hS.push, hG.tr Fr.push⟩⟩)
        · refine J_iconst (pc := 17) (v := nI 1) dX6_nth_17 (by decide) ?_
          refine J_goto (pc := 18) (tgt := 22) dX6_nth_18 (by decide) ?_
          refine J_callS (pc := 22) (M := mX6_nth) (as := [.int (nI 1)]) dX6_nth_22 fw_X6_need fl_X6_99 fs_X6_need rfl (c_X6_need hs (d := d - 1) (by omega) (w := w) 1 (by omega) (kc := 1) (ks := 6) (Nat.le_refl _) (Nat.le_refl _)) (by omega) (by omega) (by omega) (st := []) (Nat.le_of_ble_eq_true rfl) rfl (kr_X (kr_V fun w7 hw7 => ?_)) (kx_X fun E7 w7 hx7 => ?_)
          · obtain ⟨hq7, hp7⟩ := hw7
            obtain rfl := hq7.symm
            refine J_aload_n (pc := 25) dX6_nth_25 rfl rfl rfl ?_
            obtain ⟨_, hc8, rfl⟩ := hS 0 _ rfl
            refine J_get (pc := 26) (k := 1) dX6_nth_26 kC7 (by decide) ff_X6_16 hc8 rfl ?_
            refine J_aload_n (pc := 29) dX6_nth_29 rfl rfl rfl ?_
            refine J_get (pc := 30) (k := 0) dX6_nth_30 kC7 (by decide) ff_X6_9 hc8 rfl ?_
            refine J_iload_n (pc := 33) dX6_nth_33 rfl rfl ?_
            refine J_aload_n (pc := 34) dX6_nth_34 rfl rfl rfl ?_
            refine J_get (pc := 35) (k := 0) dX6_nth_35 kC7 (by decide) ff_X6_9 hc8 rfl ?_
            refine J_iload_n (pc := 38) dX6_nth_38 rfl rfl ?_
            obtain ⟨_, hc9, xs9, rfl, hl9⟩ := hS 1 _ rfl
            refine J_iald (pc := 39) dX6_nth_39 hc9 (nI_in (by omega) (by omega)) (J_absI fun x10 => ?_)
            refine J_aload_n (pc := 40) dX6_nth_40 rfl rfl rfl ?_
            refine J_get (pc := 41) (k := 5) dX6_nth_41 kC7 (by decide) ff_X6_41 hc8 rfl ?_
            obtain ⟨_, hc12, ka12, kf12, kb12, kg12, rfl, hb12_0, hb12_1⟩ := hS 2 _ rfl
            refine J_callV0 (pc := 44) (M := mX6_nth) (as := [.ref 1, .int p0, .int x10, .int (nI n)]) dX6_nth_44 fw_X0_raise fl_X6_134 fm_X0_raise fe_X0_raise hc12 (by decide) rfl rfl rfl (c_X0_raise hs (d := d - 1) (by omega) (e := e) (r := r) (q := q) hn1 hn2 hS (w := w) p0 x10 (kc := 0) (ks := 0)) (by omega) (st := []) (Nat.le_of_ble_eq_true rfl) rfl (kr_V fun w11 hw11 => ?_) kx_V
            obtain ⟨hS11, hF11⟩ := hw11
            have hG11 := hG.tr hF11
            refine J_iload_n (pc := 47) dX6_nth_47 rfl rfl ?_
            refine J_aload_n (pc := 48) dX6_nth_48 rfl rfl rfl ?_
            obtain ⟨_, hc13, rfl⟩ := hS11 0 _ rfl
            refine J_get (pc := 49) (k := 1) dX6_nth_49 kC7 (by decide) ff_X6_16 hc13 rfl ?_
            obtain ⟨_, hc15, ka15, kf15, kb15, kg15, rfl, hb15_0, hb15_1⟩ := hS11 2 _ rfl
            refine J_callV0 (pc := 52) (M := mX6_nth) (as := []) dX6_nth_52 fw_X0_total fl_X6_138 fm_X0_total fe_X0_total hc15 (by decide) rfl rfl rfl (c_X0_total hs (d := d - 1) (by omega) (e := e) (r := r) (q := q) hn1 hn2 hS11 (w := w11)  (kc := 0) (ks := 0)) (by omega) (st := [.int p2]) (Nat.le_of_ble_eq_true rfl) rfl (kr_P fun v14 hv14 => ?_) kx_I
            refine J_icmp_lt (pc := 55) (tgt := 63) dX6_nth_55 (by decide) (fun ht16 => ?_) (fun hf17 => ?_)
            · refine J_aload_n (pc := 63) dX6_nth_63 rfl rfl rfl ?_
              refine J_iload (pc := 64) dX6_nth_64 rfl ?_
              refine J_aload_n (pc := 66) dX6_nth_66 rfl rfl rfl ?_
              refine J_get (pc := 67) (k := 1) dX6_nth_67 kC7 (by decide) ff_X6_16 hc13 rfl ?_
              refine J_iload_n (pc := 70) dX6_nth_70 rfl rfl ?_
              refine J_ldc (pc := 71) (v := nI 1754760) dX6_nth_71 (by have := fk_X6_56; exact this) ?_
              refine J_callV0 (pc := 73) (M := mX6_nth) (as := [.int p2, .int (nI 1754760)]) dX6_nth_73 fw_X0_moveAt fl_X6_141 fm_X0_moveAt fe_X0_moveAt hc15 (by decide) rfl rfl rfl (c_X0_moveAt hs (d := d - 1) (by omega) (e := e) (r := r) (q := q) hn1 hn2 hS11 (w := w11) p2 (nI 1754760) (kc := 0) (ks := 0)) (by omega) (st := [.int (nI b2), .ref 0]) (Nat.le_of_ble_eq_true rfl) rfl (kr_P fun v18 hv18 => ?_) kx_I
              refine J_callV0 (pc := 76) (M := mX6_nth) (as := [.int (nI b2), .int v18]) dX6_nth_76 fw_X6_keepForNumber fl_X6_106 fm_X6_keepForNumber fe_X6_keepForNumber hc13 (by decide) rfl rfl rfl (c_X6_keepForNumber hs (d := d - 1) (by omega) (e := e) (r := r) (q := q) hn1 hn2 hS11 (w := w11) b2 v18 (by omega) (kc := 0) (ks := 0)) (by omega) (st := []) (Nat.le_of_ble_eq_true rfl) rfl (kr_I fun v19 w19 hv19 hw19 => ?_) kx_I
              obtain ⟨e19, r19, hS19, hF19⟩ := hw19
              have hG19 := hG11.tr hF19
              exact J_iret (pc := 79) dX6_nth_79 rfl ⟨trivial, ⟨_, _, hS19, hG19⟩⟩
            · refine J_aload_n (pc := 58) dX6_nth_58 rfl rfl rfl ?_
              refine J_callV0 (pc := 59) (M := mX6_nth) (as := []) dX6_nth_59 fw_X6_cannot fl_X6_124 fm_X6_cannot fe_X6_cannot hc13 (by decide) rfl rfl rfl (c_X6_cannot hs (d := d - 1) (by omega) (e := e) (r := r) (q := q) hn1 hn2 hS11 (w := w11)  (kc := 0) (ks := 0)) (by omega) (st := []) (Nat.le_of_ble_eq_true rfl) rfl (kr_I fun v20 w20 hv20 hw20 => ?_) kx_I
              obtain ⟨e20, r20, hS20, hF20⟩ := hw20
              have hG20 := hG11.tr hF20
              exact J_iret (pc := 62) dX6_nth_62 rfl ⟨trivial, ⟨_, _, hS20, hG20⟩⟩
          · exact JX_out (fun _ h => nomatch h) (by obtain ⟨h1, h2⟩ := hx7; exact ⟨Or.inr h1, by subst h2; exact ⟨_, _, hS.push, hG.tr Fr.push⟩⟩)
      · exact JX_out (fun _ h => nomatch h) (by obtain ⟨h1, h2⟩ := hx3; exact ⟨Or.inr h1, by subst h2; exact ⟨_, _, hS.push, hG.tr Fr.push⟩⟩)
    · exact JX_out (fun _ h => nomatch h) (by obtain ⟨h1, h2⟩ := hx2; exact ⟨Or.inl h1, by subst h2; exact ⟨_, _, hS.push, hG.tr Fr.push⟩⟩)
  · exact JX_out (fun _ h => nomatch h) (by obtain ⟨h1, h2⟩ := hx1; exact ⟨Or.inl h1, by subst h2; exact ⟨_, _, hS.push, hG.tr Fr.push⟩⟩)
set_option maxRecDepth 100000 in
set_option maxHeartbeats 4000000 in
theorem c_X6_count {X : jX} (hs : X.1.stackTraces = false) {d : Nat} (hd : 0 ≤ d) {n : Nat} {e r q : Int32} (hn1 : 2 ≤ n) (hn2 : n ≤ 7) {w : List jC} (hS : SH (rX n e r q) w) {kc ks : Nat} : jMet X mX6_count d kc ks [.ref 0] w (pI (fun v => ∃ k : Nat, v = nI k ∧ k = n) (fun w' => w' = w)) := by
  refine jMet_of hs (by decide +kernel) (Nat.le_of_ble_eq_true rfl) (L := [some (.ref 0)]) rfl ?_
  have hG : Fr kX w w := Fr.rf
  refine J_aload_n (pc := 0) dX6_count_0 rfl rfl rfl ?_
  obtain ⟨_, hc1, rfl⟩ := hS 0 _ rfl
  refine J_get (pc := 1) (k := 5) dX6_count_1 kC7 (by decide) ff_X6_41 hc1 rfl ?_
  exact J_iret (pc := 4) dX6_count_4 rfl ⟨⟨n, rfl, by omega⟩, rfl⟩
