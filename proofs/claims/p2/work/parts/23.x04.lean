/-! contracts of the class -/
set_option maxRecDepth 100000 in
set_option maxHeartbeats 4000000 in
theorem c_X6_copy {X : jX} (hs : X.1.stackTraces = false) {d : Nat} (hd : 12 ≤ d) {n : Nat} {e r q : Int32} (hn1 : 2 ≤ n) (hn2 : n ≤ 7) {w : List jC} (hS : SH (rX n e r q) w) (p0 : Int32) (p1 : Int32) {kc ks : Nat} (hkc : 2 ≤ kc) (hks : 12 ≤ ks) : jMet X mX6_copy d kc ks [.ref 0, .int p0, .int p1] w (pX (pI (fun _ => True) (fun w' => rT n q w w')) (fun E w' => (E = "java/lang/IndexOutOfBoundsException") ∧ rT n q w w')) := by
  refine jMet_of hs (by decide +kernel) (Nat.le_of_ble_eq_true rfl) (L := [some (.ref 0), some (.int p0), some (.int p1), none]) rfl ?_
  have hG : Fr kX w w := Fr.rf
  refine J_iload_n (pc := 0) dX6_copy_0 rfl rfl ?_
  refine J_callS (pc := 1) (M := mX6_copy) (as := [.int p0]) dX6_copy_1 fw_X6_needCell fl_X6_67 fs_X6_needCell rfl (c_X6_needCell hs (d := d - 1) (by omega) (w := w) p0 (kc := 1) (ks := 6) (Nat.le_refl _) (Nat.le_refl _)) (by omega) (by omega) (by omega) (st := []) (Nat.le_of_ble_eq_true rfl) rfl (kr_X (kr_V fun w1 hw1 => ?_)) (kx_X fun E1 w1 hx1 => ?_)
  · obtain ⟨hq1, hp1⟩ := hw1
    obtain rfl := hq1.symm
    obtain ⟨b1, hb1, rfl⟩ := hp1
    refine J_iload_n (pc := 4) dX6_copy_4 rfl rfl ?_
    refine J_callS (pc := 5) (M := mX6_copy) (as := [.int p1]) dX6_copy_5 fw_X6_needCell fl_X6_67 fs_X6_needCell rfl (c_X6_needCell hs (d := d - 1) (by omega) (w := w) p1 (kc := 1) (ks := 6) (Nat.le_refl _) (Nat.le_refl _)) (by omega) (by omega) (by omega) (st := []) (Nat.le_of_ble_eq_true rfl) rfl (kr_X (kr_V fun w2 hw2 => ?_)) (kx_X fun E2 w2 hx2 => ?_)
    · obtain ⟨hq2, hp2⟩ := hw2
      obtain rfl := hq2.symm
      obtain ⟨b2, hb2, rfl⟩ := hp2
      refine J_aload_n (pc := 8) dX6_copy_8 rfl rfl rfl ?_
      obtain ⟨_, hc3, rfl⟩ := hS 0 _ rfl
      refine J_get (pc := 9) (k := 0) dX6_copy_9 kC7 (by decide) ff_X6_9 hc3 rfl ?_
      refine J_iload_n (pc := 12) dX6_copy_12 rfl rfl ?_
      obtain ⟨_, hc4, xs4, rfl, hl4⟩ := hS 1 _ rfl
      refine J_iald (pc := 13) dX6_copy_13 hc4 (nI_in (by omega) (by omega)) (J_absI fun x5 => ?_)
      refine J_istore_n (pc := 14) dX6_copy_14 rfl (by decide) rfl ?_
      show J X mX6_copy d (kc - 1 - 1) (ks - 6 - 6) 15 [some (.ref 0), some (.int (nI b1)), some (.int (nI b2)), some (.int x5)] [] w _
      refine J_aload_n (pc := 15) dX6_copy_15 rfl rfl rfl ?_
      refine J_iload_n (pc := 16) dX6_copy_16 rfl rfl ?_
      refine J_aload_n (pc := 17) dX6_copy_17 rfl rfl rfl ?_
      refine J_get (pc := 18) (k := 0) dX6_copy_18 kC7 (by decide) ff_X6_9 hc3 rfl ?_
      refine J_iload_n (pc := 21) dX6_copy_21 rfl rfl ?_
      refine J_iald (pc := 22) dX6_copy_22 hc4 (nI_in (by omega) (by omega)) (J_absI fun x6 => ?_)
      refine J_callV0 (pc := 23) (M := mX6_copy) (as := [.int (nI b2), .int x6]) dX6_copy_23 fw_X6_keep fl_X6_82 fm_X6_keep fe_X6_keep hc3 (by decide) rfl rfl rfl (c_X6_keep hs (d := d - 1) (by omega) (e := e) (r := r) (q := q) hn1 hn2 hS (w := w) b2 x6 (by omega) (kc := 0) (ks := 0)) (by omega) (st := []) (Nat.le_of_ble_eq_true rfl) rfl (kr_V fun w7 hw7 => ?_) kx_V
      obtain ⟨e7, r7, hS7, hF7⟩ := hw7
      have hG7 := hG.tr hF7
      refine J_iload_n (pc := 26) dX6_copy_26 rfl rfl ?_
      refine J_aload_n (pc := 27) dX6_copy_27 rfl rfl rfl ?_
      obtain ⟨_, hc8, rfl⟩ := hS7 0 _ rfl
      refine J_get (pc := 28) (k := 0) dX6_copy_28 kC7 (by decide) ff_X6_9 hc8 rfl ?_
      refine J_iload_n (pc := 31) dX6_copy_31 rfl rfl ?_
      obtain ⟨_, hc9, xs9, rfl, hl9⟩ := hS7 1 _ rfl
      refine J_iald (pc := 32) dX6_copy_32 hc9 (nI_in (by omega) (by omega)) (J_absI fun x10 => ?_)
      refine J_icmp_eq (pc := 33) (tgt := 40) dX6_copy_33 (by decide) (fun ht11 => ?_) (fun hf12 => ?_)
      · refine J_iconst (pc := 40) (v := nI 0) dX6_copy_40 (by decide) ?_
        exact J_iret (pc := 41) dX6_copy_41 rfl ⟨trivial, ⟨_, _, hS7, hG7⟩⟩
      · refine J_iconst (pc := 36) (v := nI 1) dX6_copy_36 (by decide) ?_
        refine J_goto (pc := 37) (tgt := 41) dX6_copy_37 (by decide) ?_
        exact J_iret (pc := 41) dX6_copy_41 rfl ⟨trivial, ⟨_, _, hS7, hG7⟩⟩
    · exact JX_out (fun _ h => nomatch h) (by obtain ⟨h1, h2⟩ := hx2; exact ⟨h1, by subst h2; exact ⟨_, _, hS.push, hG.tr Fr.push⟩⟩)
  · exact JX_out (fun _ h => nomatch h) (by obtain ⟨h1, h2⟩ := hx1; exact ⟨h1, by subst h2; exact ⟨_, _, hS.push, hG.tr Fr.push⟩⟩)
set_option maxRecDepth 100000 in
set_option maxHeartbeats 4000000 in
theorem c_X6_swap {X : jX} (hs : X.1.stackTraces = false) {d : Nat} (hd : 12 ≤ d) {n : Nat} {e r q : Int32} (hn1 : 2 ≤ n) (hn2 : n ≤ 7) {w : List jC} (hS : SH (rX n e r q) w) (p0 : Int32) (p1 : Int32) {kc ks : Nat} (hkc : 2 ≤ kc) (hks : 12 ≤ ks) : jMet X mX6_swap d kc ks [.ref 0, .int p0, .int p1] w (pX (pI (fun _ => True) (fun w' => rT n q w w')) (fun E w' => (E = "java/lang/IndexOutOfBoundsException") ∧ rT n q w w')) := by
  refine jMet_of hs (by decide +kernel) (Nat.le_of_ble_eq_true rfl) (L := [some (.ref 0), some (.int p0), some (.int p1), none, none]) rfl ?_
  have hG : Fr kX w w := Fr.rf
  refine J_iload_n (pc := 0) dX6_swap_0 rfl rfl ?_
  refine J_callS (pc := 1) (M := mX6_swap) (as := [.int p0]) dX6_swap_1 fw_X6_needCell fl_X6_67 fs_X6_needCell rfl (c_X6_needCell hs (d := d - 1) (by omega) (w := w) p0 (kc := 1) (ks := 6) (Nat.le_refl _) (Nat.le_refl _)) (by omega) (by omega) (by omega) (st := []) (Nat.le_of_ble_eq_true rfl) rfl (kr_X (kr_V fun w1 hw1 => ?_)) (kx_X fun E1 w1 hx1 => ?_)
  · obtain ⟨hq1, hp1⟩ := hw1
    obtain rfl := hq1.symm
    obtain ⟨b1, hb1, rfl⟩ := hp1
    refine J_iload_n (pc := 4) dX6_swap_4 rfl rfl ?_
    refine J_callS (pc := 5) (M := mX6_swap) (as := [.int p1]) dX6_swap_5 fw_X6_needCell fl_X6_67 fs_X6_needCell rfl (c_X6_needCell hs (d := d - 1) (by omega) (w := w) p1 (kc := 1) (ks := 6) (Nat.le_refl _) (Nat.le_refl _)) (by omega) (by omega) (by omega) (st := []) (Nat.le_of_ble_eq_true rfl) rfl (kr_X (kr_V fun w2 hw2 => ?_)) (kx_X fun E2 w2 hx2 => ?_)
    · obtain ⟨hq2, hp2⟩ := hw2
      obtain rfl := hq2.symm
      obtain ⟨b2, hb2, rfl⟩ := hp2
      refine J_aload_n (pc := 8) dX6_swap_8 rfl rfl rfl ?_
      obtain ⟨_, hc3, rfl⟩ := hS 0 _ rfl
      refine J_get (pc := 9) (k := 0) dX6_swap_9 kC7 (by decide) ff_X6_9 hc3 rfl ?_
      refine J_iload_n (pc := 12) dX6_swap_12 rfl rfl ?_
      obtain ⟨_, hc4, xs4, rfl, hl4⟩ := hS 1 _ rfl
      refine J_iald (pc := 13) dX6_swap_13 hc4 (nI_in (by omega) (by omega)) (J_absI fun x5 => ?_)
      refine J_istore_n (pc := 14) dX6_swap_14 rfl (by decide) rfl ?_
      show J X mX6_swap d (kc - 1 - 1) (ks - 6 - 6) 15 [some (.ref 0), some (.int (nI b1)), some (.int (nI b2)), some (.int x5), none] [] w _
      refine J_aload_n (pc := 15) dX6_swap_15 rfl rfl rfl ?_
      refine J_get (pc := 16) (k := 0) dX6_swap_16 kC7 (by decide) ff_X6_9 hc3 rfl ?_
      refine J_iload_n (pc := 19) dX6_swap_19 rfl rfl ?_
      refine J_iald (pc := 20) dX6_swap_20 hc4 (nI_in (by omega) (by omega)) (J_absI fun x6 => ?_)
      refine J_istore (pc := 21) dX6_swap_21 (by decide) rfl ?_
      show J X mX6_swap d (kc - 1 - 1) (ks - 6 - 6) 23 [some (.ref 0), some (.int (nI b1)), some (.int (nI b2)), some (.int x5), some (.int x6)] [] w _
      refine J_aload_n (pc := 23) dX6_swap_23 rfl rfl rfl ?_
      refine J_get (pc := 24) (k := 0) dX6_swap_24 kC7 (by decide) ff_X6_9 hc3 rfl ?_
      refine J_iload_n (pc := 27) dX6_swap_27 rfl rfl ?_
      refine J_iload (pc := 28) dX6_swap_28 rfl ?_
      refine J_iastS (pc := 30) kX dX6_swap_30 hS hc4 (nI_in (by omega) (by omega)) rfl ⟨_, rfl, by rw [List.length_set]; exact hl4⟩ (by decide) (fun w7 hS7 hc7 hne7 hF7 => ?_)
      have hG7 := hG.tr hF7
      have hl7 : (List.set xs4 (nI b1).toNatClampNeg x6).length = 6 := by rw [List.length_set]; exact hl4
      generalize List.set xs4 (nI b1).toNatClampNeg x6 = xs7 at hc7 hl7
      have hc3_v7 := (hne7 0 (by decide)).trans hc3
      refine J_aload_n (pc := 31) dX6_swap_31 rfl rfl rfl ?_
      refine J_iload_n (pc := 32) dX6_swap_32 rfl rfl ?_
      refine J_iload_n (pc := 33) dX6_swap_33 rfl rfl ?_
      refine J_callV0 (pc := 34) (M := mX6_swap) (as := [.int (nI b2), .int x5]) dX6_swap_34 fw_X6_keep fl_X6_82 fm_X6_keep fe_X6_keep hc3_v7 (by decide) rfl rfl rfl (c_X6_keep hs (d := d - 1) (by omega) (e := e) (r := r) (q := q) hn1 hn2 hS7 (w := w7) b2 x5 (by omega) (kc := 0) (ks := 0)) (by omega) (st := []) (Nat.le_of_ble_eq_true rfl) rfl (kr_V fun w8 hw8 => ?_) kx_V
      obtain ⟨e8, r8, hS8, hF8⟩ := hw8
      have hG8 := hG7.tr hF8
      refine J_iload_n (pc := 37) dX6_swap_37 rfl rfl ?_
      refine J_iload (pc := 38) dX6_swap_38 rfl ?_
      refine J_icmp_eq (pc := 40) (tgt := 47) dX6_swap_40 (by decide) (fun ht9 => ?_) (fun hf10 => ?_)
      · refine J_iconst (pc := 47) (v := nI 0) dX6_swap_47 (by decide) ?_
        exact J_iret (pc := 48) dX6_swap_48 rfl ⟨trivial, ⟨_, _, hS8, hG8⟩⟩
      · refine J_iconst (pc := 43) (v := nI 1) dX6_swap_43 (by decide) ?_
        refine J_goto (pc := 44) (tgt := 48) dX6_swap_44 (by decide) ?_
        exact J_iret (pc := 48) dX6_swap_48 rfl ⟨trivial, ⟨_, _, hS8, hG8⟩⟩
    · exact JX_out (fun _ h => nomatch h) (by obtain ⟨h1, h2⟩ := hx2; exact ⟨h1, by subst h2; exact ⟨_, _, hS.push, hG.tr Fr.push⟩⟩)
  · exact JX_out (fun _ h => nomatch h) (by obtain ⟨h1, h2⟩ := hx1; exact ⟨h1, by subst h2; exact ⟨_, _, hS.push, hG.tr Fr.push⟩⟩)
set_option maxRecDepth 100000 in
set_option maxHeartbeats 4000000 in
theorem c_X6_then {X : jX} (hs : X.1.stackTraces = false) {d : Nat} (hd : 12 ≤ d) {n : Nat} {e r q : Int32} (hn1 : 2 ≤ n) (hn2 : n ≤ 7) {w : List jC} (hS : SH (rX n e r q) w) (p0 : Int32) (p1 : Int32) (p2 : Int32) {kc ks : Nat} (hkc : 3 ≤ kc) (hks : 18 ≤ ks) : jMet X mX6_then d kc ks [.ref 0, .int p0, .int p1, .int p2] w (pX (pI (fun _ => True) (fun w' => rT n q w w')) (fun E w' => (E = "java/lang/IndexOutOfBoundsException") ∧ rT n q w w')) := by
  refine jMet_of hs (by decide +kernel) (Nat.le_of_ble_eq_true rfl) (L := [some (.ref 0), some (.int p0), some (.int p1), some (.int p2)]) rfl ?_
  have hG : Fr kX w w := Fr.rf
  refine J_iload_n (pc := 0) dX6_then_0 rfl rfl ?_
  refine J_callS (pc := 1) (M := mX6_then) (as := [.int p0]) dX6_then_1 fw_X6_needCell fl_X6_67 fs_X6_needCell rfl (c_X6_needCell hs (d := d - 1) (by omega) (w := w) p0 (kc := 1) (ks := 6) (Nat.le_refl _) (Nat.le_refl _)) (by omega) (by omega) (by omega) (st := []) (Nat.le_of_ble_eq_true rfl) rfl (kr_X (kr_V fun w1 hw1 => ?_)) (kx_X fun E1 w1 hx1 => ?_)
  · obtain ⟨hq1, hp1⟩ := hw1
    obtain rfl := hq1.symm
    obtain ⟨b1, hb1, rfl⟩ := hp1
    refine J_iload_n (pc := 4) dX6_then_4 rfl rfl ?_
    refine J_callS (pc := 5) (M := mX6_then) (as := [.int p1]) dX6_then_5 fw_X6_needCell fl_X6_67 fs_X6_needCell rfl (c_X6_needCell hs (d := d - 1) (by omega) (w := w) p1 (kc := 1) (ks := 6) (Nat.le_refl _) (Nat.le_refl _)) (by omega) (by omega) (by omega) (st := []) (Nat.le_of_ble_eq_true rfl) rfl (kr_X (kr_V fun w2 hw2 => ?_)) (kx_X fun E2 w2 hx2 => ?_)
    · obtain ⟨hq2, hp2⟩ := hw2
      obtain rfl := hq2.symm
      obtain ⟨b2, hb2, rfl⟩ := hp2
      refine J_iload_n (pc := 8) dX6_then_8 rfl rfl ?_
      refine J_callS (pc := 9) (M := mX6_then) (as := [.int p2]) dX6_then_9 fw_X6_needCell fl_X6_67 fs_X6_needCell rfl (c_X6_needCell hs (d := d - 1) (by omega) (w := w) p2 (kc := 1) (ks := 6) (Nat.le_refl _) (Nat.le_refl _)) (by omega) (by omega) (by omega) (st := []) (Nat.le_of_ble_eq_true rfl) rfl (kr_X (kr_V fun w3 hw3 => ?_)) (kx_X fun E3 w3 hx3 => ?_)
      · obtain ⟨hq3, hp3⟩ := hw3
        obtain rfl := hq3.symm
        obtain ⟨b3, hb3, rfl⟩ := hp3
        refine J_aload_n (pc := 12) dX6_then_12 rfl rfl rfl ?_
        refine J_iload_n (pc := 13) dX6_then_13 rfl rfl ?_
        refine J_aload_n (pc := 14) dX6_then_14 rfl rfl rfl ?_
        obtain ⟨_, hc4, rfl⟩ := hS 0 _ rfl
        refine J_get (pc := 15) (k := 0) dX6_then_15 kC7 (by decide) ff_X6_9 hc4 rfl ?_
        refine J_iload_n (pc := 18) dX6_then_18 rfl rfl ?_
        obtain ⟨_, hc5, xs5, rfl, hl5⟩ := hS 1 _ rfl
        refine J_iald (pc := 19) dX6_then_19 hc5 (nI_in (by omega) (by omega)) (J_absI fun x6 => ?_)
        refine J_aload_n (pc := 20) dX6_then_20 rfl rfl rfl ?_
        refine J_get (pc := 21) (k := 0) dX6_then_21 kC7 (by decide) ff_X6_9 hc4 rfl ?_
        refine J_iload_n (pc := 24) dX6_then_24 rfl rfl ?_
        refine J_iald (pc := 25) dX6_then_25 hc5 (nI_in (by omega) (by omega)) (J_absI fun x7 => ?_)
        refine J_callS0 (pc := 26) (M := mX6_then) (as := [.int x6, .int x7]) dX6_then_26 fw_X2_both fl_X6_93 fs_X2_both rfl (c_X2_both hs (d := d - 1) (by omega) (w := w) x6 x7 (kc := 0) (ks := 0)) (by omega) (st := [.int (nI b3), .ref 0]) (Nat.le_of_ble_eq_true rfl) rfl (kr_P fun v8 hv8 => ?_) kx_I
        refine J_callV0 (pc := 29) (M := mX6_then) (as := [.int (nI b3), .int v8]) dX6_then_29 fw_X6_keepForNumber fl_X6_106 fm_X6_keepForNumber fe_X6_keepForNumber hc4 (by decide) rfl rfl rfl (c_X6_keepForNumber hs (d := d - 1) (by omega) (e := e) (r := r) (q := q) hn1 hn2 hS (w := w) b3 v8 (by omega) (kc := 0) (ks := 0)) (by omega) (st := []) (Nat.le_of_ble_eq_true rfl) rfl (kr_I fun v9 w9 hv9 hw9 => ?_) kx_I
        obtain ⟨e9, r9, hS9, hF9⟩ := hw9
        have hG9 := hG.tr hF9
        exact J_iret (pc := 32) dX6_then_32 rfl ⟨trivial, ⟨_, _, hS9, hG9⟩⟩
      · exact JX_out (fun _ h => nomatch h) (by obtain ⟨h1, h2⟩ := hx3; exact ⟨h1, by subst h2; exact ⟨_, _, hS.push, hG.tr Fr.push⟩⟩)
    · exact JX_out (fun _ h => nomatch h) (by obtain ⟨h1, h2⟩ := hx2; exact ⟨h1, by subst h2; exact ⟨_, _, hS.push, hG.tr Fr.push⟩⟩)
  · exact JX_out (fun _ h => nomatch h) (by obtain ⟨h1, h2⟩ := hx1; exact ⟨h1, by subst h2; exact ⟨_, _, hS.push, hG.tr Fr.push⟩⟩)
