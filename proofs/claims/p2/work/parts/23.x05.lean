/-! contracts of the class -/
set_option maxRecDepth 100000 in
set_option maxHeartbeats 4000000 in
theorem c_X6_undo {X : jX} (hs : X.1.stackTraces = false) {d : Nat} (hd : 12 ≤ d) {n : Nat} {e r q : Int32} (hn1 : 2 ≤ n) (hn2 : n ≤ 7) {w : List jC} (hS : SH (rX n e r q) w) (p0 : Int32) (p1 : Int32) {kc ks : Nat} (hkc : 2 ≤ kc) (hks : 12 ≤ ks) : jMet X mX6_undo d kc ks [.ref 0, .int p0, .int p1] w (pX (pI (fun _ => True) (fun w' => rT n q w w')) (fun E w' => (E = "java/lang/IndexOutOfBoundsException") ∧ rT n q w w')) := by
  refine jMet_of hs (by decide +kernel) (Nat.le_of_ble_eq_true rfl) (L := [some (.ref 0), some (.int p0), some (.int p1)]) rfl ?_
  have hG : Fr kX w w := Fr.rf
  refine J_iload_n (pc := 0) dX6_undo_0 rfl rfl ?_
  refine J_callS (pc := 1) (M := mX6_undo) (as := [.int p0]) dX6_undo_1 fw_X6_needCell fl_X6_67 fs_X6_needCell rfl (c_X6_needCell hs (d := d - 1) (by omega) (w := w) p0 (kc := 1) (ks := 6) (Nat.le_refl _) (Nat.le_refl _)) (by omega) (by omega) (by omega) (st := []) (Nat.le_of_ble_eq_true rfl) rfl (kr_X (kr_V fun w1 hw1 => ?_)) (kx_X fun E1 w1 hx1 => ?_)
  · obtain ⟨hq1, hp1⟩ := hw1
    obtain rfl := hq1.symm
    obtain ⟨b1, hb1, rfl⟩ := hp1
    refine J_iload_n (pc := 4) dX6_undo_4 rfl rfl ?_
    refine J_callS (pc := 5) (M := mX6_undo) (as := [.int p1]) dX6_undo_5 fw_X6_needCell fl_X6_67 fs_X6_needCell rfl (c_X6_needCell hs (d := d - 1) (by omega) (w := w) p1 (kc := 1) (ks := 6) (Nat.le_refl _) (Nat.le_refl _)) (by omega) (by omega) (by omega) (st := []) (Nat.le_of_ble_eq_true rfl) rfl (kr_X (kr_V fun w2 hw2 => ?_)) (kx_X fun E2 w2 hx2 => ?_)
    · obtain ⟨hq2, hp2⟩ := hw2
      obtain rfl := hq2.symm
      obtain ⟨b2, hb2, rfl⟩ := hp2
      refine J_aload_n (pc := 8) dX6_undo_8 rfl rfl rfl ?_
      refine J_iload_n (pc := 9) dX6_undo_9 rfl rfl ?_
      refine J_aload_n (pc := 10) dX6_undo_10 rfl rfl rfl ?_
      obtain ⟨_, hc3, rfl⟩ := hS 0 _ rfl
      refine J_get (pc := 11) (k := 0) dX6_undo_11 kC7 (by decide) ff_X6_9 hc3 rfl ?_
      refine J_iload_n (pc := 14) dX6_undo_14 rfl rfl ?_
      obtain ⟨_, hc4, xs4, rfl, hl4⟩ := hS 1 _ rfl
      refine J_iald (pc := 15) dX6_undo_15 hc4 (nI_in (by omega) (by omega)) (J_absI fun x5 => ?_)
      refine J_callS0 (pc := 16) (M := mX6_undo) (as := [.int x5]) dX6_undo_16 fw_X2_undone fl_X6_109 fs_X2_undone rfl (c_X2_undone hs (d := d - 1) (by omega) (w := w) x5 (kc := 0) (ks := 0)) (by omega) (st := [.int (nI b2), .ref 0]) (Nat.le_of_ble_eq_true rfl) rfl (kr_P fun v6 hv6 => ?_) kx_I
      refine J_callV0 (pc := 19) (M := mX6_undo) (as := [.int (nI b2), .int v6]) dX6_undo_19 fw_X6_keepForNumber fl_X6_106 fm_X6_keepForNumber fe_X6_keepForNumber hc3 (by decide) rfl rfl rfl (c_X6_keepForNumber hs (d := d - 1) (by omega) (e := e) (r := r) (q := q) hn1 hn2 hS (w := w) b2 v6 (by omega) (kc := 0) (ks := 0)) (by omega) (st := []) (Nat.le_of_ble_eq_true rfl) rfl (kr_I fun v7 w7 hv7 hw7 => ?_) kx_I
      obtain ⟨e7, r7, hS7, hF7⟩ := hw7
      have hG7 := hG.tr hF7
      exact J_iret (pc := 22) dX6_undo_22 rfl ⟨trivial, ⟨_, _, hS7, hG7⟩⟩
    · exact JX_out (fun _ h => nomatch h) (by obtain ⟨h1, h2⟩ := hx2; exact ⟨h1, by subst h2; exact ⟨_, _, hS.push, hG.tr Fr.push⟩⟩)
  · exact JX_out (fun _ h => nomatch h) (by obtain ⟨h1, h2⟩ := hx1; exact ⟨h1, by subst h2; exact ⟨_, _, hS.push, hG.tr Fr.push⟩⟩)
set_option maxRecDepth 100000 in
set_option maxHeartbeats 4000000 in
theorem c_X6_power {X : jX} (hs : X.1.stackTraces = false) {d : Nat} (hd : 13 ≤ d) {n : Nat} {e r q : Int32} (hn1 : 2 ≤ n) (hn2 : n ≤ 7) {w : List jC} (hS : SH (rX n e r q) w) (p0 : Int32) (p1 : Int32) (p2 : Int32) {kc ks : Nat} (hkc : 3 ≤ kc) (hks : 18 ≤ ks) : jMet X mX6_power d kc ks [.ref 0, .int p0, .int p1, .int p2] w (pX (pI (fun _ => True) (fun w' => rT n q w w')) (fun E w' => (E = "java/lang/IndexOutOfBoundsException" ∨ E = "java/lang/IllegalArgumentException") ∧ rT n q w w')) := by
  refine jMet_of hs (by decide +kernel) (Nat.le_of_ble_eq_true rfl) (L := [some (.ref 0), some (.int p0), some (.int p1), some (.int p2), none]) rfl ?_
  have hG : Fr kX w w := Fr.rf
  refine J_iload_n (pc := 0) dX6_power_0 rfl rfl ?_
  refine J_callS (pc := 1) (M := mX6_power) (as := [.int p0]) dX6_power_1 fw_X6_needCell fl_X6_67 fs_X6_needCell rfl (c_X6_needCell hs (d := d - 1) (by omega) (w := w) p0 (kc := 1) (ks := 6) (Nat.le_refl _) (Nat.le_refl _)) (by omega) (by omega) (by omega) (st := []) (Nat.le_of_ble_eq_true rfl) rfl (kr_X (kr_V fun w1 hw1 => ?_)) (kx_X fun E1 w1 hx1 => ?_)
  · obtain ⟨hq1, hp1⟩ := hw1
    obtain rfl := hq1.symm
    obtain ⟨b1, hb1, rfl⟩ := hp1
    refine J_iload_n (pc := 4) dX6_power_4 rfl rfl ?_
    refine J_callS (pc := 5) (M := mX6_power) (as := [.int p2]) dX6_power_5 fw_X6_needCell fl_X6_67 fs_X6_needCell rfl (c_X6_needCell hs (d := d - 1) (by omega) (w := w) p2 (kc := 1) (ks := 6) (Nat.le_refl _) (Nat.le_refl _)) (by omega) (by omega) (by omega) (st := []) (Nat.le_of_ble_eq_true rfl) rfl (kr_X (kr_V fun w2 hw2 => ?_)) (kx_X fun E2 w2 hx2 => ?_)
    · obtain ⟨hq2, hp2⟩ := hw2
      obtain rfl := hq2.symm
      obtain ⟨b2, hb2, rfl⟩ := hp2
      refine J_iload_n (pc := 8) dX6_power_8 rfl rfl ?_
      refine J_sipush (pc := 9) (v := (-1000)) dX6_power_9 (by decide) ?_
      refine J_sipush (pc := 12) (v := nI 1000) dX6_power_12 (by decide) ?_
      refine J_callS (pc := 15) (M := mX6_power) (as := [.int p1, .int (-1000), .int (nI 1000)]) dX6_power_15 fw_X6_needBetween fl_X6_63 fs_X6_needBetween rfl (c_X6_needBetween hs (d := d - 1) (by omega) (w := w) p1 (-1000) (nI 1000) (kc := 1) (ks := 6) (Nat.le_refl _) (Nat.le_refl _)) (by omega) (by omega) (by omega) (st := []) (Nat.le_of_ble_eq_true rfl) rfl (kr_X (kr_V fun w3 hw3 => ?_)) (kx_X fun E3 w3 hx3 => ?_)
      · obtain ⟨hq3, hpa3, hpb3⟩ := hw3
        obtain rfl := hq3.symm
        refine J_iload_n (pc := 18) dX6_power_18 rfl rfl ?_
        refine J_if_ge (pc := 19) (tgt := 34) dX6_power_19 (by decide) (fun ht4 => ?_) (fun hf5 => ?_)
        · refine J_aload_n (pc := 34) dX6_power_34 rfl rfl rfl ?_
          obtain ⟨_, hc6, rfl⟩ := hS 0 _ rfl
          refine J_get (pc := 35) (k := 0) dX6_power_35 kC7 (by decide) ff_X6_9 hc6 rfl ?_
          refine J_iload_n (pc := 38) dX6_power_38 rfl rfl ?_
          obtain ⟨_, hc7, xs7, rfl, hl7⟩ := hS 1 _ rfl
          refine J_iald (pc := 39) dX6_power_39 hc7 (nI_in (by omega) (by omega)) (J_absI fun x8 => ?_)
          refine J_istore (pc := 40) dX6_power_40 (by decide) rfl ?_
          show J X mX6_power d (kc - 1 - 1 - 1) (ks - 6 - 6 - 6) 42 [some (.ref 0), some (.int (nI b1)), some (.int p1), some (.int (nI b2)), some (.int x8)] [] w _
          refine J_aload_n (pc := 42) dX6_power_42 rfl rfl rfl ?_
          refine J_iload_n (pc := 43) dX6_power_43 rfl rfl ?_
          refine J_iload (pc := 44) dX6_power_44 rfl ?_
          refine J_iload_n (pc := 46) dX6_power_46 rfl rfl ?_
          refine J_callS0 (pc := 47) (M := mX6_power) (as := [.int p1]) dX6_power_47 fw_J9_abs_0f7a4 fl_X6_112 fs_J9_abs_0f7a4 rfl (c_J9_abs_0f7a4 hs (d := d - 1) (by omega) (w := w) p1 (kc := 0) (ks := 0)) (by omega) (st := [.int x8, .int (nI b2), .ref 0]) (Nat.le_of_ble_eq_true rfl) rfl (kr_P fun v9 hv9 => ?_) kx_I
          refine J_callS0 (pc := 50) (M := mX6_power) (as := [.int x8, .int v9]) dX6_power_50 fw_X2_often fl_X6_117 fs_X2_often rfl (c_X2_often hs (d := d - 1) (by omega) (w := w) x8 v9 (kc := 0) (ks := 0)) (by omega) (st := [.int (nI b2), .ref 0]) (Nat.le_of_ble_eq_true rfl) rfl (kr_P fun v10 hv10 => ?_) kx_I
          refine J_callV0 (pc := 53) (M := mX6_power) (as := [.int (nI b2), .int v10]) dX6_power_53 fw_X6_keepForNumber fl_X6_106 fm_X6_keepForNumber fe_X6_keepForNumber hc6 (by decide) rfl rfl rfl (c_X6_keepForNumber hs (d := d - 1) (by omega) (e := e) (r := r) (q := q) hn1 hn2 hS (w := w) b2 v10 (by omega) (kc := 0) (ks := 0)) (by omega) (st := []) (Nat.le_of_ble_eq_true rfl) rfl (kr_I fun v11 w11 hv11 hw11 => ?_) kx_I
          obtain ⟨e11, r11, hS11, hF11⟩ := hw11
          have hG11 := hG.tr hF11
          exact J_iret (pc := 56) dX6_power_56 rfl ⟨trivial, ⟨_, _, hS11, hG11⟩⟩
        · refine J_aload_n (pc := 22) dX6_power_22 rfl rfl rfl ?_
          obtain ⟨_, hc12, rfl⟩ := hS 0 _ rfl
          refine J_get (pc := 23) (k := 0) dX6_power_23 kC7 (by decide) ff_X6_9 hc12 rfl ?_
          refine J_iload_n (pc := 26) dX6_power_26 rfl rfl ?_
          obtain ⟨_, hc13, xs13, rfl, hl13⟩ := hS 1 _ rfl
          refine J_iald (pc := 27) dX6_power_27 hc13 (nI_in (by omega) (by omega)) (J_absI fun x14 => ?_)
          refine J_callS0 (pc := 28) (M := mX6_power) (as := [.int x14]) dX6_power_28 fw_X2_undone fl_X6_109 fs_X2_undone rfl (c_X2_undone hs (d := d - 1) (by omega) (w := w) x14 (kc := 0) (ks := 0)) (by omega) (st := []) (Nat.le_of_ble_eq_true rfl) rfl (kr_P fun v15 hv15 => ?_) kx_I
          refine J_goto (pc := 31) (tgt := 40) dX6_power_31 (by decide) ?_
          refine J_istore (pc := 40) dX6_power_40 (by decide) rfl ?_
          show J X mX6_power d (kc - 1 - 1 - 1) (ks - 6 - 6 - 6) 42 [some (.ref 0), some (.int (nI b1)), some (.int p1), some (.int (nI b2)), some (.int v15)] [] w _
          refine J_aload_n (pc := 42) dX6_power_42 rfl rfl rfl ?_
          refine J_iload_n (pc := 43) dX6_power_43 rfl rfl ?_
          refine J_iload (pc := 44) dX6_power_44 rfl ?_
          refine J_iload_n (pc := 46) dX6_power_46 rfl rfl ?_
          refine J_callS0 (pc := 47) (M := mX6_power) (as := [.int p1]) dX6_power_47 fw_J9_abs_0f7a4 fl_X6_112 fs_J9_abs_0f7a4 rfl (c_J9_abs_0f7a4 hs (d := d - 1) (by omega) (w := w) p1 (kc := 0) (ks := 0)) (by omega) (st := [.int v15, .int (nI b2), .ref 0]) (Nat.le_of_ble_eq_true rfl) rfl (kr_P fun v16 hv16 => ?_) kx_I
          refine J_callS0 (pc := 50) (M := mX6_power) (as := [.int v15, .int v16]) dX6_power_50 fw_X2_often fl_X6_117 fs_X2_often rfl (c_X2_often hs (d := d - 1) (by omega) (w := w) v15 v16 (kc := 0) (ks := 0)) (by omega) (st := [.int (nI b2), .ref 0]) (Nat.le_of_ble_eq_true rfl) rfl (kr_P fun v17 hv17 => ?_) kx_I
          refine J_callV0 (pc := 53) (M := mX6_power) (as := [.int (nI b2), .int v17]) dX6_power_53 fw_X6_keepForNumber fl_X6_106 fm_X6_keepForNumber fe_X6_keepForNumber hc12 (by decide) rfl rfl rfl (c_X6_keepForNumber hs (d := d - 1) (by omega) (e := e) (r := r) (q := q) hn1 hn2 hS (w := w) b2 v17 (by omega) (kc := 0) (ks := 0)) (by omega) (st := []) (Nat.le_of_ble_eq_true rfl) rfl (kr_I fun v18 w18 hv18 hw18 => ?_) kx_I
          obtain ⟨e18, r18, hS18, hF18⟩ := hw18
          have hG18 := hG.tr hF18
          exact J_iret (pc := 56) dX6_power_56 rfl ⟨trivial, ⟨_, _, hS18, hG18⟩⟩
      · exact JX_out (fun _ h => nomatch h) (by obtain ⟨h1, h2⟩ := hx3; exact ⟨Or.inr h1, by subst h2; exact ⟨_, _, hS.push, hG.tr Fr.push⟩⟩)
    · exact JX_out (fun _ h => nomatch h) (by obtain ⟨h1, h2⟩ := hx2; exact ⟨Or.inl h1, by subst h2; exact ⟨_, _, hS.push, hG.tr Fr.push⟩⟩)
  · exact JX_out (fun _ h => nomatch h) (by obtain ⟨h1, h2⟩ := hx1; exact ⟨Or.inl h1, by subst h2; exact ⟨_, _, hS.push, hG.tr Fr.push⟩⟩)
set_option maxRecDepth 100000 in
set_option maxHeartbeats 4000000 in
theorem c_X6_rename {X : jX} (hs : X.1.stackTraces = false) {d : Nat} (hd : 12 ≤ d) {n : Nat} {e r q : Int32} (hn1 : 2 ≤ n) (hn2 : n ≤ 7) {w : List jC} (hS : SH (rX n e r q) w) (p0 : Int32) (p1 : Int32) (p2 : Int32) {kc ks : Nat} (hkc : 3 ≤ kc) (hks : 18 ≤ ks) : jMet X mX6_rename d kc ks [.ref 0, .int p0, .int p1, .int p2] w (pX (pI (fun _ => True) (fun w' => rT n q w w')) (fun E w' => (E = "java/lang/IndexOutOfBoundsException") ∧ rT n q w w')) := by
  refine jMet_of hs (by decide +kernel) (Nat.le_of_ble_eq_true rfl) (L := [some (.ref 0), some (.int p0), some (.int p1), some (.int p2), none]) rfl ?_
  have hG : Fr kX w w := Fr.rf
  refine J_iload_n (pc := 0) dX6_rename_0 rfl rfl ?_
  refine J_callS (pc := 1) (M := mX6_rename) (as := [.int p0]) dX6_rename_1 fw_X6_needCell fl_X6_67 fs_X6_needCell rfl (c_X6_needCell hs (d := d - 1) (by omega) (w := w) p0 (kc := 1) (ks := 6) (Nat.le_refl _) (Nat.le_refl _)) (by omega) (by omega) (by omega) (st := []) (Nat.le_of_ble_eq_true rfl) rfl (kr_X (kr_V fun w1 hw1 => ?_)) (kx_X fun E1 w1 hx1 => ?_)
  · obtain ⟨hq1, hp1⟩ := hw1
    obtain rfl := hq1.symm
    obtain ⟨b1, hb1, rfl⟩ := hp1
    refine J_iload_n (pc := 4) dX6_rename_4 rfl rfl ?_
    refine J_callS (pc := 5) (M := mX6_rename) (as := [.int p1]) dX6_rename_5 fw_X6_needCell fl_X6_67 fs_X6_needCell rfl (c_X6_needCell hs (d := d - 1) (by omega) (w := w) p1 (kc := 1) (ks := 6) (Nat.le_refl _) (Nat.le_refl _)) (by omega) (by omega) (by omega) (st := []) (Nat.le_of_ble_eq_true rfl) rfl (kr_X (kr_V fun w2 hw2 => ?_)) (kx_X fun E2 w2 hx2 => ?_)
    · obtain ⟨hq2, hp2⟩ := hw2
      obtain rfl := hq2.symm
      obtain ⟨b2, hb2, rfl⟩ := hp2
      refine J_iload_n (pc := 8) dX6_rename_8 rfl rfl ?_
      refine J_callS (pc := 9) (M := mX6_rename) (as := [.int p2]) dX6_rename_9 fw_X6_needCell fl_X6_67 fs_X6_needCell rfl (c_X6_needCell hs (d := d - 1) (by omega) (w := w) p2 (kc := 1) (ks := 6) (Nat.le_refl _) (Nat.le_refl _)) (by omega) (by omega) (by omega) (st := []) (Nat.le_of_ble_eq_true rfl) rfl (kr_X (kr_V fun w3 hw3 => ?_)) (kx_X fun E3 w3 hx3 => ?_)
      · obtain ⟨hq3, hp3⟩ := hw3
        obtain rfl := hq3.symm
        obtain ⟨b3, hb3, rfl⟩ := hp3
        refine J_aload_n (pc := 12) dX6_rename_12 rfl rfl rfl ?_
        obtain ⟨_, hc4, rfl⟩ := hS 0 _ rfl
        refine J_get (pc := 13) (k := 0) dX6_rename_13 kC7 (by decide) ff_X6_9 hc4 rfl ?_
        refine J_iload_n (pc := 16) dX6_rename_16 rfl rfl ?_
        obtain ⟨_, hc5, xs5, rfl, hl5⟩ := hS 1 _ rfl
        refine J_iald (pc := 17) dX6_rename_17 hc5 (nI_in (by omega) (by omega)) (J_absI fun x6 => ?_)
        refine J_callS0 (pc := 18) (M := mX6_rename) (as := [.int x6]) dX6_rename_18 fw_X2_undone fl_X6_109 fs_X2_undone rfl (c_X2_undone hs (d := d - 1) (by omega) (w := w) x6 (kc := 0) (ks := 0)) (by omega) (st := []) (Nat.le_of_ble_eq_true rfl) rfl (kr_P fun v7 hv7 => ?_) kx_I
        refine J_istore (pc := 21) dX6_rename_21 (by decide) rfl ?_
        show J X mX6_rename d (kc - 1 - 1 - 1) (ks - 6 - 6 - 6) 23 [some (.ref 0), some (.int (nI b1)), some (.int (nI b2)), some (.int (nI b3)), some (.int v7)] [] w _
        refine J_aload_n (pc := 23) dX6_rename_23 rfl rfl rfl ?_
        refine J_iload_n (pc := 24) dX6_rename_24 rfl rfl ?_
        refine J_iload (pc := 25) dX6_rename_25 rfl ?_
        refine J_aload_n (pc := 27) dX6_rename_27 rfl rfl rfl ?_
        refine J_get (pc := 28) (k := 0) dX6_rename_28 kC7 (by decide) ff_X6_9 hc4 rfl ?_
        refine J_iload_n (pc := 31) dX6_rename_31 rfl rfl ?_
        refine J_iald (pc := 32) dX6_rename_32 hc5 (nI_in (by omega) (by omega)) (J_absI fun x8 => ?_)
        refine J_callS0 (pc := 33) (M := mX6_rename) (as := [.int v7, .int x8]) dX6_rename_33 fw_X2_both fl_X6_93 fs_X2_both rfl (c_X2_both hs (d := d - 1) (by omega) (w := w) v7 x8 (kc := 0) (ks := 0)) (by omega) (st := [.int (nI b3), .ref 0]) (Nat.le_of_ble_eq_true rfl) rfl (kr_P fun v9 hv9 => ?_) kx_I
        refine J_aload_n (pc := 36) dX6_rename_36 rfl rfl rfl ?_
        refine J_get (pc := 37) (k := 0) dX6_rename_37 kC7 (by decide) ff_X6_9 hc4 rfl ?_
        refine J_iload_n (pc := 40) dX6_rename_40 rfl rfl ?_
        refine J_iald (pc := 41) dX6_rename_41 hc5 (nI_in (by omega) (by omega)) (J_absI fun x10 => ?_)
        refine J_callS0 (pc := 42) (M := mX6_rename) (as := [.int v9, .int x10]) dX6_rename_42 fw_X2_both fl_X6_93 fs_X2_both rfl (c_X2_both hs (d := d - 1) (by omega) (w := w) v9 x10 (kc := 0) (ks := 0)) (by omega) (st := [.int (nI b3), .ref 0]) (Nat.le_of_ble_eq_true rfl) rfl (kr_P fun v11 hv11 => ?_) kx_I
        refine J_callV0 (pc := 45) (M := mX6_rename) (as := [.int (nI b3), .int v11]) dX6_rename_45 fw_X6_keepForNumber fl_X6_106 fm_X6_keepForNumber fe_X6_keepForNumber hc4 (by decide) rfl rfl rfl (c_X6_keepForNumber hs (d := d - 1) (by omega) (e := e) (r := r) (q := q) hn1 hn2 hS (w := w) b3 v11 (by omega) (kc := 0) (ks := 0)) (by omega) (st := []) (Nat.le_of_ble_eq_true rfl) rfl (kr_I fun v12 w12 hv12 hw12 => ?_) kx_I
        obtain ⟨e12, r12, hS12, hF12⟩ := hw12
        have hG12 := hG.tr hF12
        exact J_iret (pc := 48) dX6_rename_48 rfl ⟨trivial, ⟨_, _, hS12, hG12⟩⟩
      · exact JX_out (fun _ h => nomatch h) (by obtain ⟨h1, h2⟩ := hx3; exact ⟨h1, by subst h2; exact ⟨_, _, hS.push, hG.tr Fr.push⟩⟩)
    · exact JX_out (fun _ h => nomatch h) (by obtain ⟨h1, h2⟩ := hx2; exact ⟨h1, by subst h2; exact ⟨_, _, hS.push, hG.tr Fr.push⟩⟩)
  · exact JX_out (fun _ h => nomatch h) (by obtain ⟨h1, h2⟩ := hx1; exact ⟨h1, by subst h2; exact ⟨_, _, hS.push, hG.tr Fr.push⟩⟩)
