/-! contracts of the class -/
set_option maxRecDepth 100000 in
set_option maxHeartbeats 4000000 in
theorem c_X6_turn {X : jX} (hs : X.1.stackTraces = false) {d : Nat} (hd : 13 ≤ d) {n : Nat} {e r q : Int32} (hn1 : 2 ≤ n) (hn2 : n ≤ 7) {w : List jC} (hS : SH (rX n e r q) w) (p0 : Int32) (p1 : Int32) {kc ks : Nat} (hkc : 2 ≤ kc) (hks : 12 ≤ ks) : jMet X mX6_turn d kc ks [.ref 0, .int p0, .int p1] w (pX (pI (fun _ => True) (fun w' => rT n q w w')) (fun E w' => (E = "java/lang/IndexOutOfBoundsException" ∨ E = "java/lang/IllegalArgumentException") ∧ rT n q w w')) := by
  refine jMet_of hs (by decide +kernel) (Nat.le_of_ble_eq_true rfl) (L := [some (.ref 0), some (.int p0), some (.int p1), none, none]) rfl ?_
  have hG : Fr kX w w := Fr.rf
  refine J_iload_n (pc := 0) dX6_turn_0 rfl rfl ?_
  refine J_callS (pc := 1) (as := [.int p0]) dX6_turn_1 fw_X6_needCell fl_X6_67 fs_X6_needCell rfl (c_X6_needCell hs (d := d - 1) (by omega) (w := w) p0 (kc := 1) (ks := 6) (Nat.le_refl _) (Nat.le_refl _)) (by omega) (by omega) (by omega) (st := []) (Nat.le_of_ble_eq_true rfl) rfl (kr_X (kr_V fun w1 hw1 => ?_)) (kx_X fun E1 w1 hx1 => ?_)
  · obtain ⟨rfl, hp1⟩ := hw1
    obtain ⟨b1, hb1, rfl⟩ := hp1
    refine J_iload_n (pc := 4) dX6_turn_4 rfl rfl ?_
    refine J_bipush (pc := 5) (v := (-100)) dX6_turn_5 (by decide) ?_
    refine J_bipush (pc := 7) (v := nI 100) dX6_turn_7 (by decide) ?_
    refine J_callS (pc := 9) (as := [.int p1, .int (-100), .int (nI 100)]) dX6_turn_9 fw_X6_needBetween fl_X6_63 fs_X6_needBetween rfl (c_X6_needBetween hs (d := d - 1) (by omega) (w := w) p1 (-100) (nI 100) (kc := 1) (ks := 6) (Nat.le_refl _) (Nat.le_refl _)) (by omega) (by omega) (by omega) (st := []) (Nat.le_of_ble_eq_true rfl) rfl (kr_X (kr_V fun w2 hw2 => ?_)) (kx_X fun E2 w2 hx2 => ?_)
    · obtain ⟨rfl, hpa2, hpb2⟩ := hw2
      refine J_ldc (pc := 12) (v := nI 1754760) dX6_turn_12 (by have := fk_X6_56; exact this) ?_
      refine J_istore_n (pc := 14) dX6_turn_14 rfl (by decide) rfl ?_
      show J X mX6_turn d (kc - 1 - 1) (ks - 6 - 6) 15 [some (.ref 0), some (.int (nI b1)), some (.int p1), some (.int (nI 1754760)), none] [] w _
      refine J_iconst (pc := 15) (v := nI 0) dX6_turn_15 (by decide) ?_
      refine J_istore (pc := 16) dX6_turn_16 (by decide) rfl ?_
      show J X mX6_turn d (kc - 1 - 1) (ks - 6 - 6) 18 [some (.ref 0), some (.int (nI b1)), some (.int p1), some (.int (nI 1754760)), some (.int (nI 0))] [] w _
      have lp18_3 : ∀ (fuel : Nat) (z3 : Int32) (c4 : Nat), c4 < 2147483648 → 7 - c4 < fuel → J X mX6_turn d (kc - 1 - 1) (ks - 6 - 6) 18 [some (.ref 0), some (.int (nI b1)), some (.int p1), some (.int z3), some (.int (nI c4))] [] w (pX (pI (fun _ => True) (fun w' => rT n q w w')) (fun E w' => (E = "java/lang/IndexOutOfBoundsException" ∨ E = "java/lang/IllegalArgumentException") ∧ rT n q w w')) := by
        intro fuellp18_3
        induction fuellp18_3 with
        | zero => intros; omega
        | succ fuellp18_3 ihlp18_3 =>
          intro z3 c4 hi4 hf5
          refine J_iload (pc := 18) dX6_turn_18 rfl ?_
          refine J_aload_n (pc := 20) dX6_turn_20 rfl rfl rfl ?_
          obtain ⟨_, hc6, rfl⟩ := hS 0 _ rfl
          refine J_get (pc := 21) (k := 5) dX6_turn_21 kC7 (by decide) ff_X6_41 hc6 rfl ?_
          refine J_icmp_geN (pc := 24) (tgt := 51) dX6_turn_24 (by decide) (by omega) (by omega) (fun ht7 => ?_) (fun hf8 => ?_)
          · refine J_aload_n (pc := 51) dX6_turn_51 rfl rfl rfl ?_
            refine J_iload_n (pc := 52) dX6_turn_52 rfl rfl ?_
            refine J_aload_n (pc := 53) dX6_turn_53 rfl rfl rfl ?_
            refine J_get (pc := 54) (k := 0) dX6_turn_54 kC7 (by decide) ff_X6_9 hc6 rfl ?_
            refine J_iload_n (pc := 57) dX6_turn_57 rfl rfl ?_
            obtain ⟨_, hc9, xs9, rfl, hl9⟩ := hS 1 _ rfl
            refine J_iald (pc := 58) dX6_turn_58 hc9 (nI_in (by omega) (by omega)) (J_absI fun x10 => ?_)
            refine J_iload_n (pc := 59) dX6_turn_59 rfl rfl ?_
            refine J_callS0 (pc := 60) (as := [.int x10, .int z3]) dX6_turn_60 fw_X2_both fl_X6_93 fs_X2_both rfl (c_X2_both hs (d := d - 1) (by omega) (w := w) x10 z3 (kc := 0) (ks := 0)) (by omega) (st := [.int (nI b1), .ref 0]) (Nat.le_of_ble_eq_true rfl) rfl (kr_P fun v11 hv11 => ?_) kx_I
            refine J_callV0 (pc := 63) (as := [.int (nI b1), .int v11]) dX6_turn_63 fw_X6_keepForSign fl_X6_96 fm_X6_keepForSign fe_X6_keepForSign hc6 (by decide) rfl rfl rfl (c_X6_keepForSign hs (d := d - 1) (by omega) (e := e) (r := r) (q := q) hn1 hn2 hS (w := w) b1 v11 (by omega) (kc := 0) (ks := 0)) (by omega) (st := []) (Nat.le_of_ble_eq_true rfl) rfl (kr_I fun v12 w12 hv12 hw12 => ?_) kx_I
            obtain ⟨e12, r12, hS12, hF12⟩ := hw12
            have hG12 := hG.tr hF12
            exact J_iret (pc := 66) dX6_turn_66 rfl ⟨trivial, ⟨_, _, hS12, hG12⟩⟩
          · refine J_iload_n (pc := 27) dX6_turn_27 rfl rfl ?_
            refine J_iload (pc := 28) dX6_turn_28 rfl ?_
            refine J_iload (pc := 30) dX6_turn_30 rfl ?_
            refine J_iload_n (pc := 32) dX6_turn_32 rfl rfl ?_
            refine J_iadd (pc := 33) dX6_turn_33 (J_absI fun x13 => ?_)
            refine J_aload_n (pc := 34) dX6_turn_34 rfl rfl rfl ?_
            refine J_get (pc := 35) (k := 5) dX6_turn_35 kC7 (by decide) ff_X6_41 hc6 rfl ?_
            refine J_callS0 (pc := 38) (as := [.int x13, .int (nI n)]) dX6_turn_38 fw_X6_remainder fl_X6_103 fs_X6_remainder rfl (c_X6_remainder hs (d := d - 1) (by omega) (w := w) x13 (nI n) (kc := 0) (ks := 0)) (by omega) (st := [.int (nI c4), .int z3]) (Nat.le_of_ble_eq_true rfl) rfl (kr_P fun v14 hv14 => ?_) kx_I
            refine J_callS0 (pc := 41) (as := [.int z3, .int (nI c4), .int v14]) dX6_turn_41 fw_X2_with fl_X6_89 fs_X2_with rfl (c_X2_with hs (d := d - 1) (by omega) (w := w) z3 (nI c4) v14 (kc := 0) (ks := 0)) (by omega) (st := []) (Nat.le_of_ble_eq_true rfl) rfl (kr_P fun v15 hv15 => ?_) kx_I
            refine J_istore_n (pc := 44) dX6_turn_44 rfl (by decide) rfl ?_
            show J X mX6_turn d (kc - 1 - 1) (ks - 6 - 6) 45 [some (.ref 0), some (.int (nI b1)), some (.int p1), some (.int v15), some (.int (nI c4))] [] w _
            refine J_iincN (pc := 45) (b := 1) dX6_turn_45 rfl (by decide) (by decide) rfl ?_
            show J X mX6_turn d (kc - 1 - 1) (ks - 6 - 6) 48 [some (.ref 0), some (.int (nI b1)), some (.int p1), some (.int v15), some (.int (nI (c4 + 1)))] [] w _
            refine J_goto (pc := 48) (tgt := 18) dX6_turn_48 (by decide) ?_
            exact J_sub (L' := [some (.ref 0), some (.int (nI b1)), some (.int p1), some (.int v15), some (.int (nI (c4 + 1)))]) ⟨rfl, ⟨rfl, ⟨rfl, ⟨rfl, ⟨rfl, trivial⟩⟩⟩⟩⟩ (ihlp18_3 v15 (c4 + 1) (by first | assumption | omega) (by omega))
      exact J_sub (L' := [some (.ref 0), some (.int (nI b1)), some (.int p1), some (.int (nI 1754760)), some (.int (nI 0))]) ⟨rfl, ⟨rfl, ⟨rfl, ⟨rfl, ⟨rfl, trivial⟩⟩⟩⟩⟩ (lp18_3 _ (nI 1754760) 0 (by first | assumption | omega) (Nat.lt_succ_self _))
    · exact JX_out (fun _ h => nomatch h) (by obtain ⟨h1, h2⟩ := hx2; exact ⟨Or.inr h1, by subst h2; exact ⟨_, _, hS.push, hG.tr Fr.push⟩⟩)
  · exact JX_out (fun _ h => nomatch h) (by obtain ⟨h1, h2⟩ := hx1; exact ⟨Or.inl h1, by subst h2; exact ⟨_, _, hS.push, hG.tr Fr.push⟩⟩)
set_option maxRecDepth 100000 in
set_option maxHeartbeats 4000000 in
theorem c_X6_mirror {X : jX} (hs : X.1.stackTraces = false) {d : Nat} (hd : 12 ≤ d) {n : Nat} {e r q : Int32} (hn1 : 2 ≤ n) (hn2 : n ≤ 7) {w : List jC} (hS : SH (rX n e r q) w) (p0 : Int32) {kc ks : Nat} (hkc : 1 ≤ kc) (hks : 6 ≤ ks) : jMet X mX6_mirror d kc ks [.ref 0, .int p0] w (pX (pI (fun _ => True) (fun w' => rT n q w w')) (fun E w' => (E = "java/lang/IndexOutOfBoundsException") ∧ rT n q w w')) := by
  refine jMet_of hs (by decide +kernel) (Nat.le_of_ble_eq_true rfl) (L := [some (.ref 0), some (.int p0), none, none]) rfl ?_
  have hG : Fr kX w w := Fr.rf
  refine J_iload_n (pc := 0) dX6_mirror_0 rfl rfl ?_
  refine J_callS (pc := 1) (as := [.int p0]) dX6_mirror_1 fw_X6_needCell fl_X6_67 fs_X6_needCell rfl (c_X6_needCell hs (d := d - 1) (by omega) (w := w) p0 (kc := 1) (ks := 6) (Nat.le_refl _) (Nat.le_refl _)) (by omega) (by omega) (by omega) (st := []) (Nat.le_of_ble_eq_true rfl) rfl (kr_X (kr_V fun w1 hw1 => ?_)) (kx_X fun E1 w1 hx1 => ?_)
  · obtain ⟨rfl, hp1⟩ := hw1
    obtain ⟨b1, hb1, rfl⟩ := hp1
    refine J_ldc (pc := 4) (v := nI 1754760) dX6_mirror_4 (by have := fk_X6_56; exact this) ?_
    refine J_istore_n (pc := 6) dX6_mirror_6 rfl (by decide) rfl ?_
    show J X mX6_mirror d (kc - 1) (ks - 6) 7 [some (.ref 0), some (.int (nI b1)), some (.int (nI 1754760)), none] [] w _
    refine J_iconst (pc := 7) (v := nI 0) dX6_mirror_7 (by decide) ?_
    refine J_istore_n (pc := 8) dX6_mirror_8 rfl (by decide) rfl ?_
    show J X mX6_mirror d (kc - 1) (ks - 6) 9 [some (.ref 0), some (.int (nI b1)), some (.int (nI 1754760)), some (.int (nI 0))] [] w _
    have lp9_2 : ∀ (fuel : Nat) (z2 : Int32) (c3 : Nat), c3 < 2147483648 → 7 - c3 < fuel → J X mX6_mirror d (kc - 1) (ks - 6) 9 [some (.ref 0), some (.int (nI b1)), some (.int z2), some (.int (nI c3))] [] w (pX (pI (fun _ => True) (fun w' => rT n q w w')) (fun E w' => (E = "java/lang/IndexOutOfBoundsException") ∧ rT n q w w')) := by
      intro fuellp9_2
      induction fuellp9_2 with
      | zero => intros; omega
      | succ fuellp9_2 ihlp9_2 =>
        intro z2 c3 hi3 hf4
        refine J_iload_n (pc := 9) dX6_mirror_9 rfl rfl ?_
        refine J_aload_n (pc := 10) dX6_mirror_10 rfl rfl rfl ?_
        obtain ⟨_, hc5, rfl⟩ := hS 0 _ rfl
        refine J_get (pc := 11) (k := 5) dX6_mirror_11 kC7 (by decide) ff_X6_41 hc5 rfl ?_
        refine J_icmp_geN (pc := 14) (tgt := 37) dX6_mirror_14 (by decide) (by omega) (by omega) (fun ht6 => ?_) (fun hf7 => ?_)
        · refine J_aload_n (pc := 37) dX6_mirror_37 rfl rfl rfl ?_
          refine J_iload_n (pc := 38) dX6_mirror_38 rfl rfl ?_
          refine J_aload_n (pc := 39) dX6_mirror_39 rfl rfl rfl ?_
          refine J_get (pc := 40) (k := 0) dX6_mirror_40 kC7 (by decide) ff_X6_9 hc5 rfl ?_
          refine J_iload_n (pc := 43) dX6_mirror_43 rfl rfl ?_
          obtain ⟨_, hc8, xs8, rfl, hl8⟩ := hS 1 _ rfl
          refine J_iald (pc := 44) dX6_mirror_44 hc8 (nI_in (by omega) (by omega)) (J_absI fun x9 => ?_)
          refine J_iload_n (pc := 45) dX6_mirror_45 rfl rfl ?_
          refine J_callS0 (pc := 46) (as := [.int x9, .int z2]) dX6_mirror_46 fw_X2_both fl_X6_93 fs_X2_both rfl (c_X2_both hs (d := d - 1) (by omega) (w := w) x9 z2 (kc := 0) (ks := 0)) (by omega) (st := [.int (nI b1), .ref 0]) (Nat.le_of_ble_eq_true rfl) rfl (kr_P fun v10 hv10 => ?_) kx_I
          refine J_callV0 (pc := 49) (as := [.int (nI b1), .int v10]) dX6_mirror_49 fw_X6_keepForSign fl_X6_96 fm_X6_keepForSign fe_X6_keepForSign hc5 (by decide) rfl rfl rfl (c_X6_keepForSign hs (d := d - 1) (by omega) (e := e) (r := r) (q := q) hn1 hn2 hS (w := w) b1 v10 (by omega) (kc := 0) (ks := 0)) (by omega) (st := []) (Nat.le_of_ble_eq_true rfl) rfl (kr_I fun v11 w11 hv11 hw11 => ?_) kx_I
          obtain ⟨e11, r11, hS11, hF11⟩ := hw11
          have hG11 := hG.tr hF11
          exact J_iret (pc := 52) dX6_mirror_52 rfl ⟨trivial, ⟨_, _, hS11, hG11⟩⟩
        · refine J_iload_n (pc := 17) dX6_mirror_17 rfl rfl ?_
          refine J_iload_n (pc := 18) dX6_mirror_18 rfl rfl ?_
          refine J_aload_n (pc := 19) dX6_mirror_19 rfl rfl rfl ?_
          refine J_get (pc := 20) (k := 5) dX6_mirror_20 kC7 (by decide) ff_X6_41 hc5 rfl ?_
          refine J_iconst (pc := 23) (v := nI 1) dX6_mirror_23 (by decide) ?_
          refine J_isubN (pc := 24) dX6_mirror_24 (by omega) ?_
          refine J_iload_n (pc := 25) dX6_mirror_25 rfl rfl ?_
          refine J_isubN (pc := 26) dX6_mirror_26 (by omega) ?_
          refine J_callS0 (pc := 27) (as := [.int z2, .int (nI c3), .int (nI ((n - 1) - c3))]) dX6_mirror_27 fw_X2_with fl_X6_89 fs_X2_with rfl (c_X2_with hs (d := d - 1) (by omega) (w := w) z2 (nI c3) (nI ((n - 1) - c3)) (kc := 0) (ks := 0)) (by omega) (st := []) (Nat.le_of_ble_eq_true rfl) rfl (kr_P fun v12 hv12 => ?_) kx_I
          refine J_istore_n (pc := 30) dX6_mirror_30 rfl (by decide) rfl ?_
          show J X mX6_mirror d (kc - 1) (ks - 6) 31 [some (.ref 0), some (.int (nI b1)), some (.int v12), some (.int (nI c3))] [] w _
          refine J_iincN (pc := 31) (b := 1) dX6_mirror_31 rfl (by decide) (by decide) rfl ?_
          show J X mX6_mirror d (kc - 1) (ks - 6) 34 [some (.ref 0), some (.int (nI b1)), some (.int v12), some (.int (nI (c3 + 1)))] [] w _
          refine J_goto (pc := 34) (tgt := 9) dX6_mirror_34 (by decide) ?_
          exact J_sub (L' := [some (.ref 0), some (.int (nI b1)), some (.int v12), some (.int (nI (c3 + 1)))]) ⟨rfl, ⟨rfl, ⟨rfl, ⟨rfl, trivial⟩⟩⟩⟩ (ihlp9_2 v12 (c3 + 1) (by first | assumption | omega) (by omega))
    exact J_sub (L' := [some (.ref 0), some (.int (nI b1)), some (.int (nI 1754760)), some (.int (nI 0))]) ⟨rfl, ⟨rfl, ⟨rfl, ⟨rfl, trivial⟩⟩⟩⟩ (lp9_2 _ (nI 1754760) 0 (by first | assumption | omega) (Nat.lt_succ_self _))
  · exact JX_out (fun _ h => nomatch h) (by obtain ⟨h1, h2⟩ := hx1; exact ⟨h1, by subst h2; exact ⟨_, _, hS.push, hG.tr Fr.push⟩⟩)
set_option maxRecDepth 100000 in
set_option maxHeartbeats 4000000 in
theorem c_X6_copy {X : jX} (hs : X.1.stackTraces = false) {d : Nat} (hd : 12 ≤ d) {n : Nat} {e r q : Int32} (hn1 : 2 ≤ n) (hn2 : n ≤ 7) {w : List jC} (hS : SH (rX n e r q) w) (p0 : Int32) (p1 : Int32) {kc ks : Nat} (hkc : 2 ≤ kc) (hks : 12 ≤ ks) : jMet X mX6_copy d kc ks [.ref 0, .int p0, .int p1] w (pX (pI (fun _ => True) (fun w' => rT n q w w')) (fun E w' => (E = "java/lang/IndexOutOfBoundsException") ∧ rT n q w w')) := by
  refine jMet_of hs (by decide +kernel) (Nat.le_of_ble_eq_true rfl) (L := [some (.ref 0), some (.int p0), some (.int p1), none]) rfl ?_
  have hG : Fr kX w w := Fr.rf
  refine J_iload_n (pc := 0) dX6_copy_0 rfl rfl ?_
  refine J_callS (pc := 1) (as := [.int p0]) dX6_copy_1 fw_X6_needCell fl_X6_67 fs_X6_needCell rfl (c_X6_needCell hs (d := d - 1) (by omega) (w := w) p0 (kc := 1) (ks := 6) (Nat.le_refl _) (Nat.le_refl _)) (by omega) (by omega) (by omega) (st := []) (Nat.le_of_ble_eq_true rfl) rfl (kr_X (kr_V fun w1 hw1 => ?_)) (kx_X fun E1 w1 hx1 => ?_)
  · obtain ⟨rfl, hp1⟩ := hw1
    obtain ⟨b1, hb1, rfl⟩ := hp1
    refine J_iload_n (pc := 4) dX6_copy_4 rfl rfl ?_
    refine J_callS (pc := 5) (as := [.int p1]) dX6_copy_5 fw_X6_needCell fl_X6_67 fs_X6_needCell rfl (c_X6_needCell hs (d := d - 1) (by omega) (w := w) p1 (kc := 1) (ks := 6) (Nat.le_refl _) (Nat.le_refl _)) (by omega) (by omega) (by omega) (st := []) (Nat.le_of_ble_eq_true rfl) rfl (kr_X (kr_V fun w2 hw2 => ?_)) (kx_X fun E2 w2 hx2 => ?_)
    · obtain ⟨rfl, hp2⟩ := hw2
      obtain ⟨b2, hb2, rfl⟩ := hp2
      refine J_aload_n (pc := 8) dX6_copy_8 rfl rfl rfl ?_
      obtain ⟨_, hc3, rfl⟩ := hS 0 _ rfl
      refine J_get (pc := 9) (k := 0) dX6_copy_9 kC7 (by decide) ff_X6_9 hc3 rfl ?_
      refine J_iload_n (pc := 12) dX6_copy_12 rfl rfl ?_
      obtain ⟨_, hc4, xs4, rfl, hl4⟩ := hS 1 _ rfl
      refine J_iald (pc := 13) dX6_copy_13 hc4 (nI_in (by omega) (by omega)) (J_absI fun x5 => ?_)
      refine J_istore_n (pc := 14) dX6_copy_14 rfl (by decide) rfl ?_
      show J X mX6_copy d (kc - 1 - 1) (ks - 6 - 6) 15 [some (.ref 0), some (.int (nI b1)), some (.int (nI b2)), some (.int x5)] [] w _
      refine J_aload_n (pc := 15) dX6_copy_15 rfl rfl rfl ?_
      refine J_iload_n (pc := 16) dX6_copy_16 rfl rfl ?_
      refine J_aload_n (pc := 17) dX6_copy_17 rfl rfl rfl ?_
      refine J_get (pc := 18) (k := 0) dX6_copy_18 kC7 (by decide) ff_X6_9 hc3 rfl ?_
      refine J_iload_n (pc := 21) dX6_copy_21 rfl rfl ?_
      refine J_iald (pc := 22) dX6_copy_22 hc4 (nI_in (by omega) (by omega)) (J_absI fun x6 => ?_)
      refine J_callV0 (pc := 23) (as := [.int (nI b2), .int x6]) dX6_copy_23 fw_X6_keep fl_X6_82 fm_X6_keep fe_X6_keep hc3 (by decide) rfl rfl rfl (c_X6_keep hs (d := d - 1) (by omega) (e := e) (r := r) (q := q) hn1 hn2 hS (w := w) b2 x6 (by omega) (kc := 0) (ks := 0)) (by omega) (st := []) (Nat.le_of_ble_eq_true rfl) rfl (kr_V fun w7 hw7 => ?_) kx_V
      obtain ⟨e7, r7, hS7, hF7⟩ := hw7
      have hG7 := hG.tr hF7
      refine J_iload_n (pc := 26) dX6_copy_26 rfl rfl ?_
      refine J_aload_n (pc := 27) dX6_copy_27 rfl rfl rfl ?_
      obtain ⟨_, hc8, rfl⟩ := hS7 0 _ rfl
      refine J_get (pc := 28) (k := 0) dX6_copy_28 kC7 (by decide) ff_X6_9 hc8 rfl ?_
      refine J_iload_n (pc := 31) dX6_copy_31 rfl rfl ?_
      obtain ⟨_, hc9, xs9, rfl, hl9⟩ := hS7 1 _ rfl
      refine J_iald (pc := 32) dX6_copy_32 hc9 (nI_in (by omega) (by omega)) (J_absI fun x10 => ?_)
      refine J_icmp_eq (pc := 33) (tgt := 40) dX6_copy_33 (by decide) (fun ht11 => ?_) (fun hf12 => ?_)
      · refine J_iconst (pc := 40) (v := nI 0) dX6_copy_40 (by decide) ?_
        exact J_iret (pc := 41) dX6_copy_41 rfl ⟨trivial, ⟨_, _, hS7, hG7⟩⟩
      · refine J_iconst (pc := 36) (v := nI 1) dX6_copy_36 (by decide) ?_
        refine J_goto (pc := 37) (tgt := 41) dX6_copy_37 (by decide) ?_
        exact J_iret (pc := 41) dX6_copy_41 rfl ⟨trivial, ⟨_, _, hS7, hG7⟩⟩
    · exact JX_out (fun _ h => nomatch h) (by obtain ⟨h1, h2⟩ := hx2; exact ⟨h1, by subst h2; exact ⟨_, _, hS.push, hG.tr Fr.push⟩⟩)
  · exact JX_out (fun _ h => nomatch h) (by obtain ⟨h1, h2⟩ := hx1; exact ⟨h1, by subst h2; exact ⟨_, _, hS.push, hG.tr Fr.push⟩⟩)
set_option maxRecDepth 100000 in
set_option maxHeartbeats 4000000 in
theorem c_X6_swap {X : jX} (hs : X.1.stackTraces = false) {d : Nat} (hd : 12 ≤ d) {n : Nat} {e r q : Int32} (hn1 : 2 ≤ n) (hn2 : n ≤ 7) {w : List jC} (hS : SH (rX n e r q) w) (p0 : Int32) (p1 : Int32) {kc ks : Nat} (hkc : 2 ≤ kc) (hks : 12 ≤ ks) : jMet X mX6_swap d kc ks [.ref 0, .int p0, .int p1] w (pX (pI (fun _ => True) (fun w' => rT n q w w')) (fun E w' => (E = "java/lang/IndexOutOfBoundsException") ∧ rT n q w w')) := by
  refine jMet_of hs (by decide +kernel) (Nat.le_of_ble_eq_true rfl) (L := [some (.ref 0), some (.int p0), some (.int p1), none, none]) rfl ?_
  have hG : Fr kX w w := Fr.rf
  refine J_iload_n (pc := 0) dX6_swap_0 rfl rfl ?_
  refine J_callS (pc := 1) (as := [.int p0]) dX6_swap_1 fw_X6_needCell fl_X6_67 fs_X6_needCell rfl (c_X6_needCell hs (d := d - 1) (by omega) (w := w) p0 (kc := 1) (ks := 6) (Nat.le_refl _) (Nat.le_refl _)) (by omega) (by omega) (by omega) (st := []) (Nat.le_of_ble_eq_true rfl) rfl (kr_X (kr_V fun w1 hw1 => ?_)) (kx_X fun E1 w1 hx1 => ?_)
  · obtain ⟨rfl, hp1⟩ := hw1
    obtain ⟨b1, hb1, rfl⟩ := hp1
    refine J_iload_n (pc := 4) dX6_swap_4 rfl rfl ?_
    refine J_callS (pc := 5) (as := [.int p1]) dX6_swap_5 fw_X6_needCell fl_X6_67 fs_X6_needCell rfl (c_X6_needCell hs (d := d - 1) (by omega) (w := w) p1 (kc := 1) (ks := 6) (Nat.le_refl _) (Nat.le_refl _)) (by omega) (by omega) (by omega) (st := []) (Nat.le_of_ble_eq_true rfl) rfl (kr_X (kr_V fun w2 hw2 => ?_)) (kx_X fun E2 w2 hx2 => ?_)
    · obtain ⟨rfl, hp2⟩ := hw2
      obtain ⟨b2, hb2, rfl⟩ := hp2
      refine J_aload_n (pc := 8) dX6_swap_8 rfl rfl rfl ?_
      obtain ⟨_, hc3, rfl⟩ := hS 0 _ rfl
      refine J_get (pc := 9) (k := 0) dX6_swap_9 kC7 (by decide) ff_X6_9 hc3 rfl ?_
      refine J_iload_n (pc := 12) dX6_swap_12 rfl rfl ?_
      obtain ⟨_, hc4, xs4, rfl, hl4⟩ := hS 1 _ rfl
      refine J_iald (pc := 13) dX6_swap_13 hc4 (nI_in (by omega) (by omega)) (J_absI fun x5 => ?_)
      refine J_istore_n (pc := 14) dX6_swap_14 rfl (by decide) rfl ?_
      show J X mX6_swap d (kc - 1 - 1) (ks - 6 - 6) 15 [some (.ref 0), some (.int (nI b1)), some (.int (nI b2)), some (.int x5), none] [] w _
      refine J_aload_n (pc := 15) dX6_swap_15 rfl rfl rfl ?_
      refine J_get (pc := 16) (k := 0) dX6_swap_16 kC7 (by decide) ff_X6_9 hc3 rfl ?_
      refine J_iload_n (pc := 19) dX6_swap_19 rfl rfl ?_
      refine J_iald (pc := 20) dX6_swap_20 hc4 (nI_in (by omega) (by omega)) (J_absI fun x6 => ?_)
      refine J_istore (pc := 21) dX6_swap_21 (by decide) rfl ?_
      show J X mX6_swap d (kc - 1 - 1) (ks - 6 - 6) 23 [some (.ref 0), some (.int (nI b1)), some (.int (nI b2)), some (.int x5), some (.int x6)] [] w _
      refine J_aload_n (pc := 23) dX6_swap_23 rfl rfl rfl ?_
      refine J_get (pc := 24) (k := 0) dX6_swap_24 kC7 (by decide) ff_X6_9 hc3 rfl ?_
      refine J_iload_n (pc := 27) dX6_swap_27 rfl rfl ?_
      refine J_iload (pc := 28) dX6_swap_28 rfl ?_
      refine J_iastS (pc := 30) kX dX6_swap_30 hS hc4 (nI_in (by omega) (by omega)) rfl ⟨_, rfl, by rw [List.length_set]; exact hl4⟩ (by decide) (fun w7 hS7 hc7 hne7 hF7 => ?_)
      have hG7 := hG.tr hF7
      have hl7 : (List.set xs4 (nI b1).toNatClampNeg x6).length = 6 := by rw [List.length_set]; exact hl4
      generalize List.set xs4 (nI b1).toNatClampNeg x6 = xs7 at hc7 hl7
      have hc3_v7 := (hne7 0 (by decide)).trans hc3
      refine J_aload_n (pc := 31) dX6_swap_31 rfl rfl rfl ?_
      refine J_iload_n (pc := 32) dX6_swap_32 rfl rfl ?_
      refine J_iload_n (pc := 33) dX6_swap_33 rfl rfl ?_
      refine J_callV0 (pc := 34) (as := [.int (nI b2), .int x5]) dX6_swap_34 fw_X6_keep fl_X6_82 fm_X6_keep fe_X6_keep hc3_v7 (by decide) rfl rfl rfl (c_X6_keep hs (d := d - 1) (by omega) (e := e) (r := r) (q := q) hn1 hn2 hS7 (w := w7) b2 x5 (by omega) (kc := 0) (ks := 0)) (by omega) (st := []) (Nat.le_of_ble_eq_true rfl) rfl (kr_V fun w8 hw8 => ?_) kx_V
      obtain ⟨e8, r8, hS8, hF8⟩ := hw8
      have hG8 := hG7.tr hF8
      refine J_iload_n (pc := 37) dX6_swap_37 rfl rfl ?_
      refine J_iload (pc := 38) dX6_swap_38 rfl ?_
      refine J_icmp_eq (pc := 40) (tgt := 47) dX6_swap_40 (by decide) (fun ht9 => ?_) (fun hf10 => ?_)
      · refine J_iconst (pc := 47) (v := nI 0) dX6_swap_47 (by decide) ?_
        exact J_iret (pc := 48) dX6_swap_48 rfl ⟨trivial, ⟨_, _, hS8, hG8⟩⟩
      · refine J_iconst (pc := 43) (v := nI 1) dX6_swap_43 (by decide) ?_
        refine J_goto (pc := 44) (tgt := 48) dX6_swap_44 (by decide) ?_
        exact J_iret (pc := 48) dX6_swap_48 rfl ⟨trivial, ⟨_, _, hS8, hG8⟩⟩
    · exact JX_out (fun _ h => nomatch h) (by obtain ⟨h1, h2⟩ := hx2; exact ⟨h1, by subst h2; exact ⟨_, _, hS.push, hG.tr Fr.push⟩⟩)
  · exact JX_out (fun _ h => nomatch h) (by obtain ⟨h1, h2⟩ := hx1; exact ⟨h1, by subst h2; exact ⟨_, _, hS.push, hG.tr Fr.push⟩⟩)
set_option maxRecDepth 100000 in
set_option maxHeartbeats 4000000 in
theorem c_X6_then {X : jX} (hs : X.1.stackTraces = false) {d : Nat} (hd : 12 ≤ d) {n : Nat} {e r q : Int32} (hn1 : 2 ≤ n) (hn2 : n ≤ 7) {w : List jC} (hS : SH (rX n e r q) w) (p0 : Int32) (p1 : Int32) (p2 : Int32) {kc ks : Nat} (hkc : 3 ≤ kc) (hks : 18 ≤ ks) : jMet X mX6_then d kc ks [.ref 0, .int p0, .int p1, .int p2] w (pX (pI (fun _ => True) (fun w' => rT n q w w')) (fun E w' => (E = "java/lang/IndexOutOfBoundsException") ∧ rT n q w w')) := by
  refine jMet_of hs (by decide +kernel) (Nat.le_of_ble_eq_true rfl) (L := [some (.ref 0), some (.int p0), some (.int p1), some (.int p2)]) rfl ?_
  have hG : Fr kX w w := Fr.rf
  refine J_iload_n (pc := 0) dX6_then_0 rfl rfl ?_
  refine J_callS (pc := 1) (as := [.int p0]) dX6_then_1 fw_X6_needCell fl_X6_67 fs_X6_needCell rfl (c_X6_needCell hs (d := d - 1) (by omega) (w := w) p0 (kc := 1) (ks := 6) (Nat.le_refl _) (Nat.le_refl _)) (by omega) (by omega) (by omega) (st := []) (Nat.le_of_ble_eq_true rfl) rfl (kr_X (kr_V fun w1 hw1 => ?_)) (kx_X fun E1 w1 hx1 => ?_)
  · obtain ⟨rfl, hp1⟩ := hw1
    obtain ⟨b1, hb1, rfl⟩ := hp1
    refine J_iload_n (pc := 4) dX6_then_4 rfl rfl ?_
    refine J_callS (pc := 5) (as := [.int p1]) dX6_then_5 fw_X6_needCell fl_X6_67 fs_X6_needCell rfl (c_X6_needCell hs (d := d - 1) (by omega) (w := w) p1 (kc := 1) (ks := 6) (Nat.le_refl _) (Nat.le_refl _)) (by omega) (by omega) (by omega) (st := []) (Nat.le_of_ble_eq_true rfl) rfl (kr_X (kr_V fun w2 hw2 => ?_)) (kx_X fun E2 w2 hx2 => ?_)
    · obtain ⟨rfl, hp2⟩ := hw2
      obtain ⟨b2, hb2, rfl⟩ := hp2
      refine J_iload_n (pc := 8) dX6_then_8 rfl rfl ?_
      refine J_callS (pc := 9) (as := [.int p2]) dX6_then_9 fw_X6_needCell fl_X6_67 fs_X6_needCell rfl (c_X6_needCell hs (d := d - 1) (by omega) (w := w) p2 (kc := 1) (ks := 6) (Nat.le_refl _) (Nat.le_refl _)) (by omega) (by omega) (by omega) (st := []) (Nat.le_of_ble_eq_true rfl) rfl (kr_X (kr_V fun w3 hw3 => ?_)) (kx_X fun E3 w3 hx3 => ?_)
      · obtain ⟨rfl, hp3⟩ := hw3
        obtain ⟨b3, hb3, rfl⟩ := hp3
        refine J_aload_n (pc := 12) dX6_then_12 rfl rfl rfl ?_
        refine J_iload_n (pc := 13) dX6_then_13 rfl rfl ?_
        refine J_aload_n (pc := 14) dX6_then_14 rfl rfl rfl ?_
        obtain ⟨_, hc4, rfl⟩ := hS 0 _ rfl
        refine J_get (pc := 15) (k := 0) dX6_then_15 kC7 (by decide) ff_X6_9 hc4 rfl ?_
        refine J_iload_n (pc := 18) dX6_then_18 rfl rfl ?_
        obtain ⟨_, hc5, xs5, rfl, hl5⟩ := hS 1 _ rfl
        refine J_iald (pc := 19) dX6_then_19 hc5 (nI_in (by omega) (by omega)) (J_absI fun x6 => ?_)
        refine J_aload_n (pc := 20) dX6_then_20 rfl rfl rfl ?_
        refine J_get (pc := 21) (k := 0) dX6_then_21 kC7 (by decide) ff_X6_9 hc4 rfl ?_
        refine J_iload_n (pc := 24) dX6_then_24 rfl rfl ?_
        refine J_iald (pc := 25) dX6_then_25 hc5 (nI_in (by omega) (by omega)) (J_absI fun x7 => ?_)
        refine J_callS0 (pc := 26) (as := [.int x6, .int x7]) dX6_then_26 fw_X2_both fl_X6_93 fs_X2_both rfl (c_X2_both hs (d := d - 1) (by omega) (w := w) x6 x7 (kc := 0) (ks := 0)) (by omega) (st := [.int (nI b3), .ref 0]) (Nat.le_of_ble_eq_true rfl) rfl (kr_P fun v8 hv8 => ?_) kx_I
        refine J_callV0 (pc := 29) (as := [.int (nI b3), .int v8]) dX6_then_29 fw_X6_keepForNumber fl_X6_106 fm_X6_keepForNumber fe_X6_keepForNumber hc4 (by decide) rfl rfl rfl (c_X6_keepForNumber hs (d := d - 1) (by omega) (e := e) (r := r) (q := q) hn1 hn2 hS (w := w) b3 v8 (by omega) (kc := 0) (ks := 0)) (by omega) (st := []) (Nat.le_of_ble_eq_true rfl) rfl (kr_I fun v9 w9 hv9 hw9 => ?_) kx_I
        obtain ⟨e9, r9, hS9, hF9⟩ := hw9
        have hG9 := hG.tr hF9
        exact J_iret (pc := 32) dX6_then_32 rfl ⟨trivial, ⟨_, _, hS9, hG9⟩⟩
      · exact JX_out (fun _ h => nomatch h) (by obtain ⟨h1, h2⟩ := hx3; exact ⟨h1, by subst h2; exact ⟨_, _, hS.push, hG.tr Fr.push⟩⟩)
    · exact JX_out (fun _ h => nomatch h) (by obtain ⟨h1, h2⟩ := hx2; exact ⟨h1, by subst h2; exact ⟨_, _, hS.push, hG.tr Fr.push⟩⟩)
  · exact JX_out (fun _ h => nomatch h) (by obtain ⟨h1, h2⟩ := hx1; exact ⟨h1, by subst h2; exact ⟨_, _, hS.push, hG.tr Fr.push⟩⟩)
set_option maxRecDepth 100000 in
set_option maxHeartbeats 4000000 in
theorem c_X6_undo {X : jX} (hs : X.1.stackTraces = false) {d : Nat} (hd : 12 ≤ d) {n : Nat} {e r q : Int32} (hn1 : 2 ≤ n) (hn2 : n ≤ 7) {w : List jC} (hS : SH (rX n e r q) w) (p0 : Int32) (p1 : Int32) {kc ks : Nat} (hkc : 2 ≤ kc) (hks : 12 ≤ ks) : jMet X mX6_undo d kc ks [.ref 0, .int p0, .int p1] w (pX (pI (fun _ => True) (fun w' => rT n q w w')) (fun E w' => (E = "java/lang/IndexOutOfBoundsException") ∧ rT n q w w')) := by
  refine jMet_of hs (by decide +kernel) (Nat.le_of_ble_eq_true rfl) (L := [some (.ref 0), some (.int p0), some (.int p1)]) rfl ?_
  have hG : Fr kX w w := Fr.rf
  refine J_iload_n (pc := 0) dX6_undo_0 rfl rfl ?_
  refine J_callS (pc := 1) (as := [.int p0]) dX6_undo_1 fw_X6_needCell fl_X6_67 fs_X6_needCell rfl (c_X6_needCell hs (d := d - 1) (by omega) (w := w) p0 (kc := 1) (ks := 6) (Nat.le_refl _) (Nat.le_refl _)) (by omega) (by omega) (by omega) (st := []) (Nat.le_of_ble_eq_true rfl) rfl (kr_X (kr_V fun w1 hw1 => ?_)) (kx_X fun E1 w1 hx1 => ?_)
  · obtain ⟨rfl, hp1⟩ := hw1
    obtain ⟨b1, hb1, rfl⟩ := hp1
    refine J_iload_n (pc := 4) dX6_undo_4 rfl rfl ?_
    refine J_callS (pc := 5) (as := [.int p1]) dX6_undo_5 fw_X6_needCell fl_X6_67 fs_X6_needCell rfl (c_X6_needCell hs (d := d - 1) (by omega) (w := w) p1 (kc := 1) (ks := 6) (Nat.le_refl _) (Nat.le_refl _)) (by omega) (by omega) (by omega) (st := []) (Nat.le_of_ble_eq_true rfl) rfl (kr_X (kr_V fun w2 hw2 => ?_)) (kx_X fun E2 w2 hx2 => ?_)
    · obtain ⟨rfl, hp2⟩ := hw2
      obtain ⟨b2, hb2, rfl⟩ := hp2
      refine J_aload_n (pc := 8) dX6_undo_8 rfl rfl rfl ?_
      refine J_iload_n (pc := 9) dX6_undo_9 rfl rfl ?_
      refine J_aload_n (pc := 10) dX6_undo_10 rfl rfl rfl ?_
      obtain ⟨_, hc3, rfl⟩ := hS 0 _ rfl
      refine J_get (pc := 11) (k := 0) dX6_undo_11 kC7 (by decide) ff_X6_9 hc3 rfl ?_
      refine J_iload_n (pc := 14) dX6_undo_14 rfl rfl ?_
      obtain ⟨_, hc4, xs4, rfl, hl4⟩ := hS 1 _ rfl
      refine J_iald (pc := 15) dX6_undo_15 hc4 (nI_in (by omega) (by omega)) (J_absI fun x5 => ?_)
      refine J_callS0 (pc := 16) (as := [.int x5]) dX6_undo_16 fw_X2_undone fl_X6_109 fs_X2_undone rfl (c_X2_undone hs (d := d - 1) (by omega) (w := w) x5 (kc := 0) (ks := 0)) (by omega) (st := [.int (nI b2), .ref 0]) (Nat.le_of_ble_eq_true rfl) rfl (kr_P fun v6 hv6 => ?_) kx_I
      refine J_callV0 (pc := 19) (as := [.int (nI b2), .int v6]) dX6_undo_19 fw_X6_keepForNumber fl_X6_106 fm_X6_keepForNumber fe_X6_keepForNumber hc3 (by decide) rfl rfl rfl (c_X6_keepForNumber hs (d := d - 1) (by omega) (e := e) (r := r) (q := q) hn1 hn2 hS (w := w) b2 v6 (by omega) (kc := 0) (ks := 0)) (by omega) (st := []) (Nat.le_of_ble_eq_true rfl) rfl (kr_I fun v7 w7 hv7 hw7 => ?_) kx_I
      obtain ⟨e7, r7, hS7, hF7⟩ := hw7
      have hG7 := hG.tr hF7
      exact J_iret (pc := 22) dX6_undo_22 rfl ⟨trivial, ⟨_, _, hS7, hG7⟩⟩
    · exact JX_out (fun _ h => nomatch h) (by obtain ⟨h1, h2⟩ := hx2; exact ⟨h1, by subst h2; exact ⟨_, _, hS.push, hG.tr Fr.push⟩⟩)
  · exact JX_out (fun _ h => nomatch h) (by obtain ⟨h1, h2⟩ := hx1; exact ⟨h1, by subst h2; exact ⟨_, _, hS.push, hG.tr Fr.push⟩⟩)
set_option maxRecDepth 100000 in
set_option maxHeartbeats 4000000 in
theorem c_X6_power {X : jX} (hs : X.1.stackTraces = false) {d : Nat} (hd : 13 ≤ d) {n : Nat} {e r q : Int32} (hn1 : 2 ≤ n) (hn2 : n ≤ 7) {w : List jC} (hS : SH (rX n e r q) w) (p0 : Int32) (p1 : Int32) (p2 : Int32) {kc ks : Nat} (hkc : 3 ≤ kc) (hks : 18 ≤ ks) : jMet X mX6_power d kc ks [.ref 0, .int p0, .int p1, .int p2] w (pX (pI (fun _ => True) (fun w' => rT n q w w')) (fun E w' => (E = "java/lang/IndexOutOfBoundsException" ∨ E = "java/lang/IllegalArgumentException") ∧ rT n q w w')) := by
  refine jMet_of hs (by decide +kernel) (Nat.le_of_ble_eq_true rfl) (L := [some (.ref 0), some (.int p0), some (.int p1), some (.int p2), none]) rfl ?_
  have hG : Fr kX w w := Fr.rf
  refine J_iload_n (pc := 0) dX6_power_0 rfl rfl ?_
  refine J_callS (pc := 1) (as := [.int p0]) dX6_power_1 fw_X6_needCell fl_X6_67 fs_X6_needCell rfl (c_X6_needCell hs (d := d - 1) (by omega) (w := w) p0 (kc := 1) (ks := 6) (Nat.le_refl _) (Nat.le_refl _)) (by omega) (by omega) (by omega) (st := []) (Nat.le_of_ble_eq_true rfl) rfl (kr_X (kr_V fun w1 hw1 => ?_)) (kx_X fun E1 w1 hx1 => ?_)
  · obtain ⟨rfl, hp1⟩ := hw1
    obtain ⟨b1, hb1, rfl⟩ := hp1
    refine J_iload_n (pc := 4) dX6_power_4 rfl rfl ?_
    refine J_callS (pc := 5) (as := [.int p2]) dX6_power_5 fw_X6_needCell fl_X6_67 fs_X6_needCell rfl (c_X6_needCell hs (d := d - 1) (by omega) (w := w) p2 (kc := 1) (ks := 6) (Nat.le_refl _) (Nat.le_refl _)) (by omega) (by omega) (by omega) (st := []) (Nat.le_of_ble_eq_true rfl) rfl (kr_X (kr_V fun w2 hw2 => ?_)) (kx_X fun E2 w2 hx2 => ?_)
    · obtain ⟨rfl, hp2⟩ := hw2
      obtain ⟨b2, hb2, rfl⟩ := hp2
      refine J_iload_n (pc := 8) dX6_power_8 rfl rfl ?_
      refine J_sipush (pc := 9) (v := (-1000)) dX6_power_9 (by decide) ?_
      refine J_sipush (pc := 12) (v := nI 1000) dX6_power_12 (by decide) ?_
      refine J_callS (pc := 15) (as := [.int p1, .int (-1000), .int (nI 1000)]) dX6_power_15 fw_X6_needBetween fl_X6_63 fs_X6_needBetween rfl (c_X6_needBetween hs (d := d - 1) (by omega) (w := w) p1 (-1000) (nI 1000) (kc := 1) (ks := 6) (Nat.le_refl _) (Nat.le_refl _)) (by omega) (by omega) (by omega) (st := []) (Nat.le_of_ble_eq_true rfl) rfl (kr_X (kr_V fun w3 hw3 => ?_)) (kx_X fun E3 w3 hx3 => ?_)
      · obtain ⟨rfl, hpa3, hpb3⟩ := hw3
        refine J_iload_n (pc := 18) dX6_power_18 rfl rfl ?_
        refine J_if_ge (pc := 19) (tgt := 34) dX6_power_19 (by decide) (fun ht4 => ?_) (fun hf5 => ?_)
        · refine J_aload_n (pc := 34) dX6_power_34 rfl rfl rfl ?_
          obtain ⟨_, hc6, rfl⟩ := hS 0 _ rfl
          refine J_get (pc := 35) (k := 0) dX6_power_35 kC7 (by decide) ff_X6_9 hc6 rfl ?_
          refine J_iload_n (pc := 38) dX6_power_38 rfl rfl ?_
          obtain ⟨_, hc7, xs7, rfl, hl7⟩ := hS 1 _ rfl
          refine J_iald (pc := 39) dX6_power_39 hc7 (nI_in (by omega) (by omega)) (J_absI fun x8 => ?_)
          refine J_istore (pc := 40) dX6_power_40 (by decide) rfl ?_
          show J X mX6_power d (kc - 1 - 1 - 1) (ks - 6 - 6 - 6) 42 [some (.ref 0), some (.int (nI b1)), some (.int p1), some (.int (nI b2)), some (.int x8)] [] w _
          refine J_aload_n (pc := 42) dX6_power_42 rfl rfl rfl ?_
          refine J_iload_n (pc := 43) dX6_power_43 rfl rfl ?_
          refine J_iload (pc := 44) dX6_power_44 rfl ?_
          refine J_iload_n (pc := 46) dX6_power_46 rfl rfl ?_
          refine J_callS0 (pc := 47) (as := [.int p1]) dX6_power_47 fw_J9_abs_0f7a4 fl_X6_112 fs_J9_abs_0f7a4 rfl (c_J9_abs_0f7a4 hs (d := d - 1) (by omega) (w := w) p1 (kc := 0) (ks := 0)) (by omega) (st := [.int x8, .int (nI b2), .ref 0]) (Nat.le_of_ble_eq_true rfl) rfl (kr_P fun v9 hv9 => ?_) kx_I
          refine J_callS0 (pc := 50) (as := [.int x8, .int v9]) dX6_power_50 fw_X2_often fl_X6_117 fs_X2_often rfl (c_X2_often hs (d := d - 1) (by omega) (w := w) x8 v9 (kc := 0) (ks := 0)) (by omega) (st := [.int (nI b2), .ref 0]) (Nat.le_of_ble_eq_true rfl) rfl (kr_P fun v10 hv10 => ?_) kx_I
          refine J_callV0 (pc := 53) (as := [.int (nI b2), .int v10]) dX6_power_53 fw_X6_keepForNumber fl_X6_106 fm_X6_keepForNumber fe_X6_keepForNumber hc6 (by decide) rfl rfl rfl (c_X6_keepForNumber hs (d := d - 1) (by omega) (e := e) (r := r) (q := q) hn1 hn2 hS (w := w) b2 v10 (by omega) (kc := 0) (ks := 0)) (by omega) (st := []) (Nat.le_of_ble_eq_true rfl) rfl (kr_I fun v11 w11 hv11 hw11 => ?_) kx_I
          obtain ⟨e11, r11, hS11, hF11⟩ := hw11
          have hG11 := hG.tr hF11
          exact J_iret (pc := 56) dX6_power_56 rfl ⟨trivial, ⟨_, _, hS11, hG11⟩⟩
        · refine J_aload_n (pc := 22) dX6_power_22 rfl rfl rfl ?_
          obtain ⟨_, hc12, rfl⟩ := hS 0 _ rfl
          refine J_get (pc := 23) (k := 0) dX6_power_23 kC7 (by decide) ff_X6_9 hc12 rfl ?_
          refine J_iload_n (pc := 26) dX6_power_26 rfl rfl ?_
          obtain ⟨_, hc13, xs13, rfl, hl13⟩ := hS 1 _ rfl
          refine J_iald (pc := 27) dX6_power_27 hc13 (nI_in (by omega) (by omega)) (J_absI fun x14 => ?_)
          refine J_callS0 (pc := 28) (as := [.int x14]) dX6_power_28 fw_X2_undone fl_X6_109 fs_X2_undone rfl (c_X2_undone hs (d := d - 1) (by omega) (w := w) x14 (kc := 0) (ks := 0)) (by omega) (st := []) (Nat.le_of_ble_eq_true rfl) rfl (kr_P fun v15 hv15 => ?_) kx_I
          refine J_goto (pc := 31) (tgt := 40) dX6_power_31 (by decide) ?_
          refine J_istore (pc := 40) dX6_power_40 (by decide) rfl ?_
          show J X mX6_power d (kc - 1 - 1 - 1) (ks - 6 - 6 - 6) 42 [some (.ref 0), some (.int (nI b1)), some (.int p1), some (.int (nI b2)), some (.int v15)] [] w _
          refine J_aload_n (pc := 42) dX6_power_42 rfl rfl rfl ?_
          refine J_iload_n (pc := 43) dX6_power_43 rfl rfl ?_
          refine J_iload (pc := 44) dX6_power_44 rfl ?_
          refine J_iload_n (pc := 46) dX6_power_46 rfl rfl ?_
          refine J_callS0 (pc := 47) (as := [.int p1]) dX6_power_47 fw_J9_abs_0f7a4 fl_X6_112 fs_J9_abs_0f7a4 rfl (c_J9_abs_0f7a4 hs (d := d - 1) (by omega) (w := w) p1 (kc := 0) (ks := 0)) (by omega) (st := [.int v15, .int (nI b2), .ref 0]) (Nat.le_of_ble_eq_true rfl) rfl (kr_P fun v16 hv16 => ?_) kx_I
          refine J_callS0 (pc := 50) (as := [.int v15, .int v16]) dX6_power_50 fw_X2_often fl_X6_117 fs_X2_often rfl (c_X2_often hs (d := d - 1) (by omega) (w := w) v15 v16 (kc := 0) (ks := 0)) (by omega) (st := [.int (nI b2), .ref 0]) (Nat.le_of_ble_eq_true rfl) rfl (kr_P fun v17 hv17 => ?_) kx_I
          refine J_callV0 (pc := 53) (as := [.int (nI b2), .int v17]) dX6_power_53 fw_X6_keepForNumber fl_X6_106 fm_X6_keepForNumber fe_X6_keepForNumber hc12 (by decide) rfl rfl rfl (c_X6_keepForNumber hs (d := d - 1) (by omega) (e := e) (r := r) (q := q) hn1 hn2 hS (w := w) b2 v17 (by omega) (kc := 0) (ks := 0)) (by omega) (st := []) (Nat.le_of_ble_eq_true rfl) rfl (kr_I fun v18 w18 hv18 hw18 => ?_) kx_I
          obtain ⟨e18, r18, hS18, hF18⟩ := hw18
          have hG18 := hG.tr hF18
          exact J_iret (pc := 56) dX6_power_56 rfl ⟨trivial, ⟨_, _, hS18, hG18⟩⟩
      · exact JX_out (fun _ h => nomatch h) (by obtain ⟨h1, h2⟩ := hx3; exact ⟨Or.inr h1, by subst h2; exact ⟨_, _, hS.push, hG.tr Fr.push⟩⟩)
    · exact JX_out (fun _ h => nomatch h) (by obtain ⟨h1, h2⟩ := hx2; exact ⟨Or.inl h1, by subst h2; exact ⟨_, _, hS.push, hG.tr Fr.push⟩⟩)
  · exact JX_out (fun _ h => nomatch h) (by obtain ⟨h1, h2⟩ := hx1; exact ⟨Or.inl h1, by subst h2; exact ⟨_, _, hS.push, hG.tr Fr.push⟩⟩)
set_option maxRecDepth 100000 in
set_option maxHeartbeats 4000000 in
theorem c_X6_rename {X : jX} (hs : X.1.stackTraces = false) {d : Nat} (hd : 12 ≤ d) {n : Nat} {e r q : Int32} (hn1 : 2 ≤ n) (hn2 : n ≤ 7) {w : List jC} (hS : SH (rX n e r q) w) (p0 : Int32) (p1 : Int32) (p2 : Int32) {kc ks : Nat} (hkc : 3 ≤ kc) (hks : 18 ≤ ks) : jMet X mX6_rename d kc ks [.ref 0, .int p0, .int p1, .int p2] w (pX (pI (fun _ => True) (fun w' => rT n q w w')) (fun E w' => (E = "java/lang/IndexOutOfBoundsException") ∧ rT n q w w')) := by
  refine jMet_of hs (by decide +kernel) (Nat.le_of_ble_eq_true rfl) (L := [some (.ref 0), some (.int p0), some (.int p1), some (.int p2), none]) rfl ?_
  have hG : Fr kX w w := Fr.rf
  refine J_iload_n (pc := 0) dX6_rename_0 rfl rfl ?_
  refine J_callS (pc := 1) (as := [.int p0]) dX6_rename_1 fw_X6_needCell fl_X6_67 fs_X6_needCell rfl (c_X6_needCell hs (d := d - 1) (by omega) (w := w) p0 (kc := 1) (ks := 6) (Nat.le_refl _) (Nat.le_refl _)) (by omega) (by omega) (by omega) (st := []) (Nat.le_of_ble_eq_true rfl) rfl (kr_X (kr_V fun w1 hw1 => ?_)) (kx_X fun E1 w1 hx1 => ?_)
  · obtain ⟨rfl, hp1⟩ := hw1
    obtain ⟨b1, hb1, rfl⟩ := hp1
    refine J_iload_n (pc := 4) dX6_rename_4 rfl rfl ?_
    refine J_callS (pc := 5) (as := [.int p1]) dX6_rename_5 fw_X6_needCell fl_X6_67 fs_X6_needCell rfl (c_X6_needCell hs (d := d - 1) (by omega) (w := w) p1 (kc := 1) (ks := 6) (Nat.le_refl _) (Nat.le_refl _)) (by omega) (by omega) (by omega) (st := []) (Nat.le_of_ble_eq_true rfl) rfl (kr_X (kr_V fun w2 hw2 => ?_)) (kx_X fun E2 w2 hx2 => ?_)
    · obtain ⟨rfl, hp2⟩ := hw2
      obtain ⟨b2, hb2, rfl⟩ := hp2
      refine J_iload_n (pc := 8) dX6_rename_8 rfl rfl ?_
      refine J_callS (pc := 9) (as := [.int p2]) dX6_rename_9 fw_X6_needCell fl_X6_67 fs_X6_needCell rfl (c_X6_needCell hs (d := d - 1) (by omega) (w := w) p2 (kc := 1) (ks := 6) (Nat.le_refl _) (Nat.le_refl _)) (by omega) (by omega) (by omega) (st := []) (Nat.le_of_ble_eq_true rfl) rfl (kr_X (kr_V fun w3 hw3 => ?_)) (kx_X fun E3 w3 hx3 => ?_)
      · obtain ⟨rfl, hp3⟩ := hw3
        obtain ⟨b3, hb3, rfl⟩ := hp3
        refine J_aload_n (pc := 12) dX6_rename_12 rfl rfl rfl ?_
        obtain ⟨_, hc4, rfl⟩ := hS 0 _ rfl
        refine J_get (pc := 13) (k := 0) dX6_rename_13 kC7 (by decide) ff_X6_9 hc4 rfl ?_
        refine J_iload_n (pc := 16) dX6_rename_16 rfl rfl ?_
        obtain ⟨_, hc5, xs5, rfl, hl5⟩ := hS 1 _ rfl
        refine J_iald (pc := 17) dX6_rename_17 hc5 (nI_in (by omega) (by omega)) (J_absI fun x6 => ?_)
        refine J_callS0 (pc := 18) (as := [.int x6]) dX6_rename_18 fw_X2_undone fl_X6_109 fs_X2_undone rfl (c_X2_undone hs (d := d - 1) (by omega) (w := w) x6 (kc := 0) (ks := 0)) (by omega) (st := []) (Nat.le_of_ble_eq_true rfl) rfl (kr_P fun v7 hv7 => ?_) kx_I
        refine J_istore (pc := 21) dX6_rename_21 (by decide) rfl ?_
        show J X mX6_rename d (kc - 1 - 1 - 1) (ks - 6 - 6 - 6) 23 [some (.ref 0), some (.int (nI b1)), some (.int (nI b2)), some (.int (nI b3)), some (.int v7)] [] w _
        refine J_aload_n (pc := 23) dX6_rename_23 rfl rfl rfl ?_
        refine J_iload_n (pc := 24) dX6_rename_24 rfl rfl ?_
        refine J_iload (pc := 25) dX6_rename_25 rfl ?_
        refine J_aload_n (pc := 27) dX6_rename_27 rfl rfl rfl ?_
        refine J_get (pc := 28) (k := 0) dX6_rename_28 kC7 (by decide) ff_X6_9 hc4 rfl ?_
        refine J_iload_n (pc := 31) dX6_rename_31 rfl rfl ?_
        refine J_iald (pc := 32) dX6_rename_32 hc5 (nI_in (by omega) (by omega)) (J_absI fun x8 => ?_)
        refine J_callS0 (pc := 33) (as := [.int v7, .int x8]) dX6_rename_33 fw_X2_both fl_X6_93 fs_X2_both rfl (c_X2_both hs (d := d - 1) (by omega) (w := w) v7 x8 (kc := 0) (ks := 0)) (by omega) (st := [.int (nI b3), .ref 0]) (Nat.le_of_ble_eq_true rfl) rfl (kr_P fun v9 hv9 => ?_) kx_I
        refine J_aload_n (pc := 36) dX6_rename_36 rfl rfl rfl ?_
        refine J_get (pc := 37) (k := 0) dX6_rename_37 kC7 (by decide) ff_X6_9 hc4 rfl ?_
        refine J_iload_n (pc := 40) dX6_rename_40 rfl rfl ?_
        refine J_iald (pc := 41) dX6_rename_41 hc5 (nI_in (by omega) (by omega)) (J_absI fun x10 => ?_)
        refine J_callS0 (pc := 42) (as := [.int v9, .int x10]) dX6_rename_42 fw_X2_both fl_X6_93 fs_X2_both rfl (c_X2_both hs (d := d - 1) (by omega) (w := w) v9 x10 (kc := 0) (ks := 0)) (by omega) (st := [.int (nI b3), .ref 0]) (Nat.le_of_ble_eq_true rfl) rfl (kr_P fun v11 hv11 => ?_) kx_I
        refine J_callV0 (pc := 45) (as := [.int (nI b3), .int v11]) dX6_rename_45 fw_X6_keepForNumber fl_X6_106 fm_X6_keepForNumber fe_X6_keepForNumber hc4 (by decide) rfl rfl rfl (c_X6_keepForNumber hs (d := d - 1) (by omega) (e := e) (r := r) (q := q) hn1 hn2 hS (w := w) b3 v11 (by omega) (kc := 0) (ks := 0)) (by omega) (st := []) (Nat.le_of_ble_eq_true rfl) rfl (kr_I fun v12 w12 hv12 hw12 => ?_) kx_I
        obtain ⟨e12, r12, hS12, hF12⟩ := hw12
        have hG12 := hG.tr hF12
        exact J_iret (pc := 48) dX6_rename_48 rfl ⟨trivial, ⟨_, _, hS12, hG12⟩⟩
      · exact JX_out (fun _ h => nomatch h) (by obtain ⟨h1, h2⟩ := hx3; exact ⟨h1, by subst h2; exact ⟨_, _, hS.push, hG.tr Fr.push⟩⟩)
    · exact JX_out (fun _ h => nomatch h) (by obtain ⟨h1, h2⟩ := hx2; exact ⟨h1, by subst h2; exact ⟨_, _, hS.push, hG.tr Fr.push⟩⟩)
  · exact JX_out (fun _ h => nomatch h) (by obtain ⟨h1, h2⟩ := hx1; exact ⟨h1, by subst h2; exact ⟨_, _, hS.push, hG.tr Fr.push⟩⟩)
set_option maxRecDepth 100000 in
set_option maxHeartbeats 4000000 in
theorem c_X6_match {X : jX} (hs : X.1.stackTraces = false) {d : Nat} (hd : 12 ≤ d) {n : Nat} {e r q : Int32} (hn1 : 2 ≤ n) (hn2 : n ≤ 7) {w : List jC} (hS : SH (rX n e r q) w) (p0 : Int32) (p1 : Int32) (p2 : Int32) {kc ks : Nat} (hkc : 3 ≤ kc) (hks : 18 ≤ ks) : jMet X mX6_match d kc ks [.ref 0, .int p0, .int p1, .int p2] w (pX (pI (fun _ => True) (fun w' => rT n q w w')) (fun E w' => (E = "java/lang/IndexOutOfBoundsException") ∧ rT n q w w')) := by
  refine jMet_of hs (by decide +kernel) (Nat.le_of_ble_eq_true rfl) (L := [some (.ref 0), some (.int p0), some (.int p1), some (.int p2)]) rfl ?_
  have hG : Fr kX w w := Fr.rf
  refine J_iload_n (pc := 0) dX6_match_0 rfl rfl ?_
  refine J_callS (pc := 1) (as := [.int p0]) dX6_match_1 fw_X6_needCell fl_X6_67 fs_X6_needCell rfl (c_X6_needCell hs (d := d - 1) (by omega) (w := w) p0 (kc := 1) (ks := 6) (Nat.le_refl _) (Nat.le_refl _)) (by omega) (by omega) (by omega) (st := []) (Nat.le_of_ble_eq_true rfl) rfl (kr_X (kr_V fun w1 hw1 => ?_)) (kx_X fun E1 w1 hx1 => ?_)
  · obtain ⟨rfl, hp1⟩ := hw1
    obtain ⟨b1, hb1, rfl⟩ := hp1
    refine J_iload_n (pc := 4) dX6_match_4 rfl rfl ?_
    refine J_callS (pc := 5) (as := [.int p1]) dX6_match_5 fw_X6_needCell fl_X6_67 fs_X6_needCell rfl (c_X6_needCell hs (d := d - 1) (by omega) (w := w) p1 (kc := 1) (ks := 6) (Nat.le_refl _) (Nat.le_refl _)) (by omega) (by omega) (by omega) (st := []) (Nat.le_of_ble_eq_true rfl) rfl (kr_X (kr_V fun w2 hw2 => ?_)) (kx_X fun E2 w2 hx2 => ?_)
    · obtain ⟨rfl, hp2⟩ := hw2
      obtain ⟨b2, hb2, rfl⟩ := hp2
      refine J_iload_n (pc := 8) dX6_match_8 rfl rfl ?_
      refine J_callS (pc := 9) (as := [.int p2]) dX6_match_9 fw_X6_needCell fl_X6_67 fs_X6_needCell rfl (c_X6_needCell hs (d := d - 1) (by omega) (w := w) p2 (kc := 1) (ks := 6) (Nat.le_refl _) (Nat.le_refl _)) (by omega) (by omega) (by omega) (st := []) (Nat.le_of_ble_eq_true rfl) rfl (kr_X (kr_V fun w3 hw3 => ?_)) (kx_X fun E3 w3 hx3 => ?_)
      · obtain ⟨rfl, hp3⟩ := hw3
        obtain ⟨b3, hb3, rfl⟩ := hp3
        refine J_aload_n (pc := 12) dX6_match_12 rfl rfl rfl ?_
        obtain ⟨_, hc4, rfl⟩ := hS 0 _ rfl
        refine J_get (pc := 13) (k := 0) dX6_match_13 kC7 (by decide) ff_X6_9 hc4 rfl ?_
        refine J_iload_n (pc := 16) dX6_match_16 rfl rfl ?_
        obtain ⟨_, hc5, xs5, rfl, hl5⟩ := hS 1 _ rfl
        refine J_iald (pc := 17) dX6_match_17 hc5 (nI_in (by omega) (by omega)) (J_absI fun x6 => ?_)
        refine J_aload_n (pc := 18) dX6_match_18 rfl rfl rfl ?_
        refine J_get (pc := 19) (k := 0) dX6_match_19 kC7 (by decide) ff_X6_9 hc4 rfl ?_
        refine J_iload_n (pc := 22) dX6_match_22 rfl rfl ?_
        refine J_iald (pc := 23) dX6_match_23 hc5 (nI_in (by omega) (by omega)) (J_absI fun x7 => ?_)
        refine J_callS0 (pc := 24) (as := [.int x6, .int x7]) dX6_match_24 fw_X2_haveLikeRings fl_X6_120 fs_X2_haveLikeRings rfl (c_X2_haveLikeRings hs (d := d - 1) (by omega) (w := w) x6 x7 (kc := 0) (ks := 0)) (by omega) (st := []) (Nat.le_of_ble_eq_true rfl) rfl (kr_P fun v8 hv8 => ?_) kx_I
        obtain ⟨k8, rfl, hk8⟩ := hv8
        refine J_if_neN (pc := 27) (tgt := 35) dX6_match_27 (by decide) (by omega) (fun ht9 => ?_) (fun hf10 => ?_)
        · refine J_aload_n (pc := 35) dX6_match_35 rfl rfl rfl ?_
          refine J_iload_n (pc := 36) dX6_match_36 rfl rfl ?_
          refine J_aload_n (pc := 37) dX6_match_37 rfl rfl rfl ?_
          refine J_get (pc := 38) (k := 0) dX6_match_38 kC7 (by decide) ff_X6_9 hc4 rfl ?_
          refine J_iload_n (pc := 41) dX6_match_41 rfl rfl ?_
          refine J_iald (pc := 42) dX6_match_42 hc5 (nI_in (by omega) (by omega)) (J_absI fun x11 => ?_)
          refine J_aload_n (pc := 43) dX6_match_43 rfl rfl rfl ?_
          refine J_get (pc := 44) (k := 0) dX6_match_44 kC7 (by decide) ff_X6_9 hc4 rfl ?_
          refine J_iload_n (pc := 47) dX6_match_47 rfl rfl ?_
          refine J_iald (pc := 48) dX6_match_48 hc5 (nI_in (by omega) (by omega)) (J_absI fun x12 => ?_)
          refine J_aload_n (pc := 49) dX6_match_49 rfl rfl rfl ?_
          refine J_get (pc := 50) (k := 5) dX6_match_50 kC7 (by decide) ff_X6_41 hc4 rfl ?_
          refine J_callS0 (pc := 53) (as := [.int x11, .int x12, .int (nI n)]) dX6_match_53 fw_X2_firstRenamer fl_X6_128 fs_X2_firstRenamer rfl (c_X2_firstRenamer hs (d := d - 1) (by omega) (w := w) x11 x12 n (by omega) (kc := 0) (ks := 0)) (by omega) (st := [.int (nI b3), .ref 0]) (Nat.le_of_ble_eq_true rfl) rfl (kr_P fun v13 hv13 => ?_) kx_I
          refine J_callV0 (pc := 56) (as := [.int (nI b3), .int v13]) dX6_match_56 fw_X6_keepForNumber fl_X6_106 fm_X6_keepForNumber fe_X6_keepForNumber hc4 (by decide) rfl rfl rfl (c_X6_keepForNumber hs (d := d - 1) (by omega) (e := e) (r := r) (q := q) hn1 hn2 hS (w := w) b3 v13 (by omega) (kc := 0) (ks := 0)) (by omega) (st := []) (Nat.le_of_ble_eq_true rfl) rfl (kr_I fun v14 w14 hv14 hw14 => ?_) kx_I
          obtain ⟨e14, r14, hS14, hF14⟩ := hw14
          have hG14 := hG.tr hF14
          exact J_iret (pc := 59) dX6_match_59 rfl ⟨trivial, ⟨_, _, hS14, hG14⟩⟩
        · refine J_aload_n (pc := 30) dX6_match_30 rfl rfl rfl ?_
          refine J_callV0 (pc := 31) (as := []) dX6_match_31 fw_X6_cannot fl_X6_124 fm_X6_cannot fe_X6_cannot hc4 (by decide) rfl rfl rfl (c_X6_cannot hs (d := d - 1) (by omega) (e := e) (r := r) (q := q) hn1 hn2 hS (w := w)  (kc := 0) (ks := 0)) (by omega) (st := []) (Nat.le_of_ble_eq_true rfl) rfl (kr_I fun v15 w15 hv15 hw15 => ?_) kx_I
          obtain ⟨e15, r15, hS15, hF15⟩ := hw15
          have hG15 := hG.tr hF15
          exact J_iret (pc := 34) dX6_match_34 rfl ⟨trivial, ⟨_, _, hS15, hG15⟩⟩
      · exact JX_out (fun _ h => nomatch h) (by obtain ⟨h1, h2⟩ := hx3; exact ⟨h1, by subst h2; exact ⟨_, _, hS.push, hG.tr Fr.push⟩⟩)
    · exact JX_out (fun _ h => nomatch h) (by obtain ⟨h1, h2⟩ := hx2; exact ⟨h1, by subst h2; exact ⟨_, _, hS.push, hG.tr Fr.push⟩⟩)
  · exact JX_out (fun _ h => nomatch h) (by obtain ⟨h1, h2⟩ := hx1; exact ⟨h1, by subst h2; exact ⟨_, _, hS.push, hG.tr Fr.push⟩⟩)
