/-! contracts of the class -/
set_option maxRecDepth 100000 in
set_option maxHeartbeats 4000000 in
theorem c_X6_turn {X : jX} (hs : X.1.stackTraces = false) {d : Nat} (hd : 13 ≤ d) {n : Nat} {e r q : Int32} (hn1 : 2 ≤ n) (hn2 : n ≤ 7) {w : List jC} (hS : SH (rX n e r q) w) (p0 : Int32) (p1 : Int32) {kc ks : Nat} (hkc : 2 ≤ kc) (hks : 12 ≤ ks) : jMet X mX6_turn d kc ks [.ref 0, .int p0, .int p1] w (pX (pI (fun _ => True) (fun w' => rT n q w w')) (fun E w' => (E = "java/lang/IndexOutOfBoundsException" ∨ E = "java/lang/IllegalArgumentException") ∧ rT n q w w')) := by
  refine jMet_of hs (by decide +kernel) (Nat.le_of_ble_eq_true rfl) (L := [some (.ref 0), some (.int p0), some (.int p1), none, none]) rfl ?_
  have hG : Fr kX w w := Fr.rf
  refine J_iload_n (pc := 0) dX6_turn_0 rfl rfl ?_
  refine J_callS (pc := 1) (M := mX6_turn) (as := [.int p0]) dX6_turn_1 fw_X6_needCell fl_X6_67 fs_X6_needCell rfl (c_X6_needCell hs (d := d - 1) (by omega) (w := w) p0 (kc := 1) (ks := 6) (Nat.le_refl _) (Nat.le_refl _)) (by omega) (by omega) (by omega) (st := []) (Nat.le_of_ble_eq_true rfl) rfl (kr_X (kr_V fun w1 hw1 => ?_)) (kx_X fun E1 w1 hx1 => ?_)
  · obtain ⟨hq1, hp1⟩ := hw1
    obtain rfl := hq1.symm
    obtain ⟨b1, hb1, rfl⟩ := hp1
    refine J_iload_n (pc := 4) dX6_turn_4 rfl rfl ?_
    refine J_bipush (pc := 5) (v := (-100)) dX6_turn_5 (by decide) ?_
    refine J_bipush (pc := 7) (v := nI 100) dX6_turn_7 (by decide) ?_
    refine J_callS (pc := 9) (M := mX6_turn) (as := [.int p1, .int (-100), .int (nI 100)]) dX6_turn_9 fw_X6_needBetween fl_X6_63 fs_X6_needBetween rfl (c_X6_needBetween hs (d := d - 1) (by omega) (w := w) p1 (-100) (nI 100) (kc := 1) (ks := 6) (Nat.le_refl _) (Nat.le_refl _)) (by omega) (by omega) (by omega) (st := []) (Nat.le_of_ble_eq_true rfl) rfl (kr_X (kr_V fun w2 hw2 => ?_)) (kx_X fun E2 w2 hx2 => ?_)
    · obtain ⟨hq2, hpa2, hpb2⟩ := hw2
      obtain rfl := hq2.symm
      refine J_ldc (pc := 12) (v := nI 1754760) dX6_turn_12 (by have := fk_X6_56; exact this) ?_
      refine J_istore_n (pc := 14) dX6_turn_14 rfl (by decide) rfl ?_
      show J X mX6_turn d (kc - 1 - 1) (ks - 6 - 6) 15 [some (.ref 0), some (.int (nI b1)), some (.int p1), some (.int (nI 1754760)), none] [] w _
      refine J_iconst (pc := 15) (v := nI 0) dX6_turn_15 (by decide) ?_
      refine J_istore (pc := 16) dX6_turn_16 (by decide) rfl ?_
      show J X mX6_turn d (kc - 1 - 1) (ks - 6 - 6) 18 [some (.ref 0), some (.int (nI b1)), some (.int p1), some (.int (nI 1754760)), some (.int (nI 0))] [] w _
      have lp18_3 : ∀ (fuel : Nat) (z3 : Int32) (c4 : Nat), c4 < 2147483648 → 7 - c4 < fuel → J X mX6_turn d (kc - 1 - 1) (ks - 6 - 6) 18 [some (.ref 0), some (.int (nI b1)), some (.int p1), some (.int z3), some (.int (nI c4))] [] w (pX (pI (fun _ => True) (fun w' => rT n q w w')) (fun E w' => (E = "java/lang/IndexOutOfBoundsException" ∨ E = "java/lang/IllegalArgumentException") ∧ rT n q w w')) := by
        intro fuellp18_3
        induction fuellp18_3 with
        | zero => intros; omega
        | succ fuellp18_3 ihlp18_3 =>
          intro z3 c4 hi4 hf5
          refine J_iload (pc := 18) dX6_turn_18 rfl ?_
          refine J_aload_n (pc := 20) dX6_turn_20 rfl rfl rfl ?_
          obtain ⟨_, hc6, rfl⟩ := hS 0 _ rfl
          refine J_get (pc := 21) (k := 5) dX6_turn_21 kC7 (by decide) ff_X6_41 hc6 rfl ?_
          refine J_icmp_geN (pc := 24) (tgt := 51) dX6_turn_24 (by decide) (by omega) (by omega) (fun ht7 => ?_) (fun hf8 => ?_)
          · refine J_aload_n (pc := 51) dX6_turn_51 rfl rfl rfl ?_
            refine J_iload_n (pc := 52) dX6_turn_52 rfl rfl ?_
            refine J_aload_n (pc := 53) dX6_turn_53 rfl rfl rfl ?_
            refine J_get (pc := 54) (k := 0) dX6_turn_54 kC7 (by decide) ff_X6_9 hc6 rfl ?_
            refine J_iload_n (pc := 57) dX6_turn_57 rfl rfl ?_
            obtain ⟨_, hc9, xs9, rfl, hl9⟩ := hS 1 _ rfl
            refine J_iald (pc := 58) dX6_turn_58 hc9 (nI_in (by omega) (by omega)) (J_absI fun x10 => ?_)
            refine J_iload_n (pc := 59) dX6_turn_59 rfl rfl ?_
            refine J_callS0 (pc := 60) (M := mX6_turn) (as := [.int x10, .int z3]) dX6_turn_60 fw_X2_both fl_X6_93 fs_X2_both rfl (c_X2_both hs (d := d - 1) (by omega) (w := w) x10 z3 (kc := 0) (ks := 0)) (by omega) (st := [.int (nI b1), .ref 0]) (Nat.le_of_ble_eq_true rfl) rfl (kr_P fun v11 hv11 => ?_) kx_I
            refine J_callV0 (pc := 63) (M := mX6_turn) (as := [.int (nI b1), .int v11]) dX6_turn_63 fw_X6_keepForSign fl_X6_96 fm_X6_keepForSign fe_X6_keepForSign hc6 (by decide) rfl rfl rfl (c_X6_keepForSign hs (d := d - 1) (by omega) (e := e) (r := r) (q := q) hn1 hn2 hS (w := w) b1 v11 (by omega) (kc := 0) (ks := 0)) (by omega) (st := []) (Nat.le_of_ble_eq_true rfl) rfl (kr_I fun v12 w12 hv12 hw12 => ?_) kx_I
            obtain ⟨e12, r12, hS12, hF12⟩ := hw12
            have hG12 := hG.tr hF12
            exact J_iret (pc := 66) dX6_turn_66 rfl ⟨trivial, ⟨_, _, hS12, hG12⟩⟩
          · refine J_iload_n (pc := 27) dX6_turn_27 rfl rfl ?_
            refine J_iload (pc := 28) dX6_turn_28 rfl ?_
            refine J_iload (pc := 30) dX6_turn_30 rfl ?_
            refine J_iload_n (pc := 32) dX6_turn_32 rfl rfl ?_
            refine J_iadd (pc := 33) dX6_turn_33 (J_absI fun x13 => ?_)
            refine J_aload_n (pc := 34) dX6_turn_34 rfl rfl rfl ?_
            refine J_get (pc := 35) (k := 5) dX6_turn_35 kC7 (by decide) ff_X6_41 hc6 rfl ?_
            refine J_callS0 (pc := 38) (M := mX6_turn) (as := [.int x13, .int (nI n)]) dX6_turn_38 fw_X6_remainder fl_X6_103 fs_X6_remainder rfl (c_X6_remainder hs (d := d - 1) (by omega) (w := w) x13 (nI n) (kc := 0) (ks := 0)) (by omega) (st := [.int (nI c4), .int z3]) (Nat.le_of_ble_eq_true rfl) rfl (kr_P fun v14 hv14 => ?_) kx_I
            refine J_callS0 (pc := 41) (M := mX6_turn) (as := [.int z3, .int (nI c4), .int v14]) dX6_turn_41 fw_X2_with fl_X6_89 fs_X2_with rfl (c_X2_with hs (d := d - 1) (by omega) (w := w) z3 (nI c4) v14 (kc := 0) (ks := 0)) (by omega) (st := []) (Nat.le_of_ble_eq_true rfl) rfl (kr_P fun v15 hv15 => ?_) kx_I
            refine J_istore_n (pc := 44) dX6_turn_44 rfl (by decide) rfl ?_
            show J X mX6_turn d (kc - 1 - 1) (ks - 6 - 6) 45 [some (.ref 0), some (.int (nI b1)), some (.int p1), some (.int v15), some (.int (nI c4))] [] w _
            refine J_iincN (pc := 45) (b := 1) dX6_turn_45 rfl (by decide) (by decide) rfl ?_
            show J X mX6_turn d (kc - 1 - 1) (ks - 6 - 6) 48 [some (.ref 0), some (.int (nI b1)), some (.int p1), some (.int v15), some (.int (nI (c4 + 1)))] [] w _
            refine J_goto (pc := 48) (tgt := 18) dX6_turn_48 (by decide) ?_
            exact J_sub (L' := [some (.ref 0), some (.int (nI b1)), some (.int p1), some (.int v15), some (.int (nI (c4 + 1)))]) ⟨rfl, ⟨rfl, ⟨rfl, ⟨rfl, ⟨rfl, trivial⟩⟩⟩⟩⟩ (ihlp18_3 v15 (c4 + 1) (by first | assumption | omega) (by omega))
      exact J_sub (L' := [some (.ref 0), some (.int (nI b1)), some (.int p1), some (.int (nI 1754760)), some (.int (nI 0))]) ⟨rfl, ⟨rfl, ⟨rfl, ⟨rfl, ⟨rfl, trivial⟩⟩⟩⟩⟩ (lp18_3 _ (nI 1754760) 0 (by first | assumption | omega) (Nat.lt_succ_self _))
    · exact JX_out (fun _ h => nomatch h) (by obtain ⟨h1, h2⟩ := hx2; exact ⟨Or.inr h1, by subst h2; exact ⟨_, _, hS.push, hG.tr Fr.push⟩⟩)
  · exact JX_out (fun _ h => nomatch h) (by obtain ⟨h1, h2⟩ := hx1; exact ⟨Or.inl h1, by subst h2; exact ⟨_, _, hS.push, hG.tr Fr.push⟩⟩)
set_option maxRecDepth 100000 in
set_option maxHeartbeats 4000000 in
theorem c_X6_mirror {X : jX} (hs : X.1.stackTraces = false) {d : Nat} (hd : 12 ≤ d) {n : Nat} {e r q : Int32} (hn1 : 2 ≤ n) (hn2 : n ≤ 7) {w : List jC} (hS : SH (rX n e r q) w) (p0 : Int32) {kc ks : Nat} (hkc : 1 ≤ kc) (hks : 6 ≤ ks) : jMet X mX6_mirror d kc ks [.ref 0, .int p0] w (pX (pI (fun _ => True) (fun w' => rT n q w w')) (fun E w' => (E = "java/lang/IndexOutOfBoundsException") ∧ rT n q w w')) := by
  refine jMet_of hs (by decide +kernel) (Nat.le_of_ble_eq_true rfl) (L := [some (.ref 0), some (.int p0), none, none]) rfl ?_
  have hG : Fr kX w w := Fr.rf
  refine J_iload_n (pc := 0) dX6_mirror_0 rfl rfl ?_
  refine J_callS (pc := 1) (M := mX6_mirror) (as := [.int p0]) dX6_mirror_1 fw_X6_needCell fl_X6_67 fs_X6_needCell rfl (c_X6_needCell hs (d := d - 1) (by omega) (w := w) p0 (kc := 1) (ks := 6) (Nat.le_refl _) (Nat.le_refl _)) (by omega) (by omega) (by omega) (st := []) (Nat.le_of_ble_eq_true rfl) rfl (kr_X (kr_V fun w1 hw1 => ?_)) (kx_X fun E1 w1 hx1 => ?_)
  · obtain ⟨hq1, hp1⟩ := hw1
    obtain rfl := hq1.symm
    obtain ⟨b1, hb1, rfl⟩ := hp1
    refine J_ldc (pc := 4) (v := nI 1754760) dX6_mirror_4 (by have := fk_X6_56; exact this) ?_
    refine J_istore_n (pc := 6) dX6_mirror_6 rfl (by decide) rfl ?_
    show J X mX6_mirror d (kc - 1) (ks - 6) 7 [some (.ref 0), some (.int (nI b1)), some (.int (nI 1754760)), none] [] w _
    refine J_iconst (pc := 7) (v := nI 0) dX6_mirror_7 (by decide) ?_
    refine J_istore_n (pc := 8) dX6_mirror_8 rfl (by decide) rfl ?_
    show J X mX6_mirror d (kc - 1) (ks - 6) 9 [some (.ref 0), some (.int (nI b1)), some (.int (nI 1754760)), some (.int (nI 0))] [] w _
    have lp9_2 : ∀ (fuel : Nat) (z2 : Int32) (c3 : Nat), c3 < 2147483648 → 7 - c3 < fuel → J X mX6_mirror d (kc - 1) (ks - 6) 9 [some (.ref 0), some (.int (nI b1)), some (.int z2), some (.int (nI c3))] [] w (pX (pI (fun _ => True) (fun w' => rT n q w w')) (fun E w' => (E = "java/lang/IndexOutOfBoundsException") ∧ rT n q w w')) := by
      intro fuellp9_2
      induction fuellp9_2 with
      | zero => intros; omega
      | succ fuellp9_2 ihlp9_2 =>
        intro z2 c3 hi3 hf4
        refine J_iload_n (pc := 9) dX6_mirror_9 rfl rfl ?_
        refine J_aload_n (pc := 10) dX6_mirror_10 rfl rfl rfl ?_
        obtain ⟨_, hc5, rfl⟩ := hS 0 _ rfl
        refine J_get (pc := 11) (k := 5) dX6_mirror_11 kC7 (by decide) ff_X6_41 hc5 rfl ?_
        refine J_icmp_geN (pc := 14) (tgt := 37) dX6_mirror_14 (by decide) (by omega) (by omega) (fun ht6 => ?_) (fun hf7 => ?_)
        · refine J_aload_n (pc := 37) dX6_mirror_37 rfl rfl rfl ?_
          refine J_iload_n (pc := 38) dX6_mirror_38 rfl rfl ?_
          refine J_aload_n (pc := 39) dX6_mirror_39 rfl rfl rfl ?_
          refine J_get (pc := 40) (k := 0) dX6_mirror_40 kC7 (by decide) ff_X6_9 hc5 rfl ?_
          refine J_iload_n (pc := 43) dX6_mirror_43 rfl rfl ?_
          obtain ⟨_, hc8, xs8, rfl, hl8⟩ := hS 1 _ rfl
          refine J_iald (pc := 44) dX6_mirror_44 hc8 (nI_in (by omega) (by omega)) (J_absI fun x9 => ?_)
          refine J_iload_n (pc := 45) dX6_mirror_45 rfl rfl ?_
          refine J_callS0 (pc := 46) (M := mX6_mirror) (as := [.int x9, .int z2]) dX6_mirror_46 fw_X2_both fl_X6_93 fs_X2_both rfl (c_X2_both hs (d := d - 1) (by omega) (w := w) x9 z2 (kc := 0) (ks := 0)) (by omega) (st := [.int (nI b1), .ref 0]) (Nat.le_of_ble_eq_true rfl) rfl (kr_P fun v10 hv10 => ?_) kx_I
          refine J_callV0 (pc := 49) (M := mX6_mirror) (as := [.int (nI b1), .int v10]) dX6_mirror_49 fw_X6_keepForSign fl_X6_96 fm_X6_keepForSign fe_X6_keepForSign hc5 (by decide) rfl rfl rfl (c_X6_keepForSign hs (d := d - 1) (by omega) (e := e) (r := r) (q := q) hn1 hn2 hS (w := w) b1 v10 (by omega) (kc := 0) (ks := 0)) (by omega) (st := []) (Nat.le_of_ble_eq_true rfl) rfl (kr_I fun v11 w11 hv11 hw11 => ?_) kx_I
          obtain ⟨e11, r11, hS11, hF11⟩ := hw11
          have hG11 := hG.tr hF11
          exact J_iret (pc := 52) dX6_mirror_52 rfl ⟨trivial, ⟨_, _, hS11, hG11⟩⟩
        · refine J_iload_n (pc := 17) dX6_mirror_17 rfl rfl ?_
          refine J_iload_n (pc := 18) dX6_mirror_18 rfl rfl ?_
          refine J_aload_n (pc := 19) dX6_mirror_19 rfl rfl rfl ?_
          refine J_get (pc := 20) (k := 5) dX6_mirror_20 kC7 (by decide) ff_X6_41 hc5 rfl ?_
          refine J_iconst (pc := 23) (v := nI 1) dX6_mirror_23 (by decide) ?_
          refine J_isubN (pc := 24) dX6_mirror_24 (by omega) ?_
          refine J_iload_n (pc := 25) dX6_mirror_25 rfl rfl ?_
          refine J_isubN (pc := 26) dX6_mirror_26 (by omega) ?_
          refine J_callS0 (pc := 27) (M := mX6_mirror) (as := [.int z2, .int (nI c3), .int (nI ((n - 1) - c3))]) dX6_mirror_27 fw_X2_with fl_X6_89 fs_X2_with rfl (c_X2_with hs (d := d - 1) (by omega) (w := w) z2 (nI c3) (nI ((n - 1) - c3)) (kc := 0) (ks := 0)) (by omega) (st := []) (Nat.le_of_ble_eq_true rfl) rfl (kr_P fun v12 hv12 => ?_) kx_I
          refine J_istore_n (pc := 30) dX6_mirror_30 rfl (by decide) rfl ?_
          show J X mX6_mirror d (kc - 1) (ks - 6) 31 [some (.ref 0), some (.int (nI b1)), some (.int v12), some (.int (nI c3))] [] w _
          refine J_iincN (pc := 31) (b := 1) dX6_mirror_31 rfl (by decide) (by decide) rfl ?_
          show J X mX6_mirror d (kc - 1) (ks - 6) 34 [some (.ref 0), some (.int (nI b1)), some (.int v12), some (.int (nI (c3 + 1)))] [] w _
          refine J_goto (pc := 34) (tgt := 9) dX6_mirror_34 (by decide) ?_
          exact J_sub (L' := [some (.ref 0), some (.int (nI b1)), some (.int v12), some (.int (nI (c3 + 1)))]) ⟨rfl, ⟨rfl, ⟨rfl, ⟨rfl, trivial⟩⟩⟩⟩ (ihlp9_2 v12 (c3 + 1) (by first | assumption | omega) (by omega))
    exact J_sub (L' := [some (.ref 0), some (.int (nI b1)), some (.int (nI 1754760)), some (.int (nI 0))]) ⟨rfl, ⟨rfl, ⟨rfl, ⟨rfl, trivial⟩⟩⟩⟩ (lp9_2 _ (nI 1754760) 0 (by first | assumption | omega) (Nat.lt_succ_self _))
  · exact JX_out (fun _ h => nomatch h) (by obtain ⟨h1, h2⟩ := hx1; exact ⟨h1, by subst h2; exact ⟨_, _, hS.push, hG.tr Fr.push⟩⟩)
