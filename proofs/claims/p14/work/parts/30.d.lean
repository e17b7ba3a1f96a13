/-! the law's own methods -/
set_option maxRecDepth 100000 in
set_option maxHeartbeats 4000000 in
theorem c_L_points {X : jX} (hs : X.1.stackTraces = false) {d : Nat} (hd : 42 ≤ d) {o : Nat} {S S' : StX} {w : List jC} (hI : LI o S S' w) (p0 : Int32) {kc ks : Nat} (hkc : 1 ≤ kc) (hks : 6 ≤ ks) : jMet X mL_points d kc ks [.ref 0, .int p0, .ref o] w (pJ (fun v w' => ∃ (k : Nat) (x : Int32) (S2 : StX), AG (∃ k : Nat, 2 ≤ k ∧ k ≤ 7 ∧ p0 = nI k) (True) (Dpoints S p0) S k x S2 ∧ v = nI k ∧ LI o S2 S' w' ∧ (k = 0 → ∃ s, w'[o]? = some (.inr (8, [.long x.toInt64, s]))))) := by
  refine jMet_of hs (by decide +kernel) (Nat.le_of_ble_eq_true rfl) (L := [some (.ref 0), some (.int p0), some (.ref o), none]) rfl ?_
  obtain ⟨f0, h0⟩ := hI.c0
  refine J_aload_n (pc := 0) dL_points_0 rfl rfl rfl ?_
  refine J_aload_n (pc := 1) dL_points_1 rfl rfl rfl ?_
  refine J_iload_n (pc := 2) dL_points_2 rfl rfl ?_
  refine J_callV (pc := 3) (M := mL_points) (as := [.int p0]) dL_points_3 fw_X6_points fl_L_7 fm_X6_points fe_X6_points h0 (by decide) rfl rfl rfl (uu_points hs (d := d - 1) (by omega) hI p0 (kc := 1) (ks := 6) (Nat.le_refl _) (Nat.le_refl _)) (by omega) hkc hks (st := [.ref o]) (Nat.le_of_ble_eq_true rfl) rfl (kr_X (kr_J fun v w1 hI1 => ?_)) (kx_X fun E w1 hx => ?_)
  · obtain ⟨S2, hA, hI1⟩ := hI1
    refine J_i2l (pc := 6) dL_points_6 ?_
    obtain ⟨_, fs, h24, hl24⟩ := hI1.lo
    obtain ⟨f1, f2, rfl⟩ := two hl24
    refine J_putN (pc := 7) (k := 0) dL_points_7 kC8 (by decide) ff_L_13 rfl rfl h24 (by decide : (0 : Nat) < 2) (fun w2 hln2 hw2 hne2 => ?_)
    refine J_goto (pc := 10) (tgt := 16) dL_points_10 (by decide) ?_
    refine J_iconst (pc := 16) (v := nI 0) dL_points_16 (by decide) ?_
    exact J_iret (pc := 17) dL_points_17 rfl ⟨0, v, S2, hA, rfl, hI1.out hl24 hw2 hne2, fun _ => ⟨f2, hw2⟩⟩
  · obtain ⟨hE, hI1⟩ := hx
    obtain ⟨hE, hA⟩ := hE
    subst hE
    exact JX_catch1 rfl (by decide) (by decide) fc_L_19 fcast_IllegalArgumentException (Or.inl ⟨3, dL_points_13, by decide, 1, dL_points_14, rfl, dL_points_15⟩) rfl ⟨1, 0, S, hA, rfl, hI1, fun h => absurd h (by decide)⟩
set_option maxRecDepth 100000 in
set_option maxHeartbeats 4000000 in
theorem c_L_lay {X : jX} (hs : X.1.stackTraces = false) {d : Nat} (hd : 42 ≤ d) {o : Nat} {S S' : StX} {w : List jC} (hI : LI o S S' w) (p0 : Int32) (p1 : Int32) {kc ks : Nat} (hkc : 2 ≤ kc) (hks : 12 ≤ ks) : jMet X mL_lay d kc ks [.ref 0, .int p0, .int p1, .ref o] w (pJ (fun v w' => ∃ (k : Nat) (x : Int32) (S2 : StX), AG (isN p0 6) (isN p1 (fc S.1)) (Dlay S p0 p1) S k x S2 ∧ v = nI k ∧ LI o S2 S' w' ∧ (k = 0 → ∃ s, w'[o]? = some (.inr (8, [.long x.toInt64, s]))))) := by
  refine jMet_of hs (by decide +kernel) (Nat.le_of_ble_eq_true rfl) (L := [some (.ref 0), some (.int p0), some (.int p1), some (.ref o), none]) rfl ?_
  obtain ⟨f0, h0⟩ := hI.c0
  refine J_aload_n (pc := 0) dL_lay_0 rfl rfl rfl ?_
  refine J_aload_n (pc := 1) dL_lay_1 rfl rfl rfl ?_
  refine J_iload_n (pc := 2) dL_lay_2 rfl rfl ?_
  refine J_iload_n (pc := 3) dL_lay_3 rfl rfl ?_
  refine J_callV (pc := 4) (M := mL_lay) (as := [.int p0, .int p1]) dL_lay_4 fw_X6_lay fl_L_21 fm_X6_lay fe_X6_lay h0 (by decide) rfl rfl rfl (uu_lay hs (d := d - 1) (by omega) hI p0 p1 (kc := 2) (ks := 12) (Nat.le_refl _) (Nat.le_refl _)) (by omega) hkc hks (st := [.ref o]) (Nat.le_of_ble_eq_true rfl) rfl (kr_X (kr_J fun v w1 hI1 => ?_)) (kx_X fun E w1 hx => ?_)
  · obtain ⟨S2, hA, hI1⟩ := hI1
    refine J_i2l (pc := 7) dL_lay_7 ?_
    obtain ⟨_, fs, h24, hl24⟩ := hI1.lo
    obtain ⟨f1, f2, rfl⟩ := two hl24
    refine J_putN (pc := 8) (k := 0) dL_lay_8 kC8 (by decide) ff_L_13 rfl rfl h24 (by decide : (0 : Nat) < 2) (fun w2 hln2 hw2 hne2 => ?_)
    refine J_goto (pc := 11) (tgt := 22) dL_lay_11 (by decide) ?_
    refine J_iconst (pc := 22) (v := nI 0) dL_lay_22 (by decide) ?_
    exact J_iret (pc := 23) dL_lay_23 rfl ⟨0, v, S2, hA, rfl, hI1.out hl24 hw2 hne2, fun _ => ⟨f2, hw2⟩⟩
  · obtain ⟨hE, hI1⟩ := hx
    rcases hE with ⟨rfl, hA⟩ | ⟨rfl, hA⟩
    · exact JX_catch1 rfl (by decide) (by decide) fc_L_25 fcast_IndexOutOfBoundsException (Or.inr ⟨4, dL_lay_14, by decide, 1, dL_lay_16, rfl, dL_lay_17⟩) rfl ⟨1, 0, S, hA, rfl, hI1, fun h => absurd h (by decide)⟩
    · exact JX_catch2 rfl (by decide) fc_L_25 (List.mem_singleton.mpr rfl) (by decide) (by decide) fc_L_19 fcast_IllegalArgumentException (Or.inr ⟨4, dL_lay_18, by decide, 2, dL_lay_20, rfl, dL_lay_21⟩) rfl ⟨2, 0, S, hA, rfl, hI1, fun h => absurd h (by decide)⟩
set_option maxRecDepth 100000 in
set_option maxHeartbeats 4000000 in
theorem c_L_exchange {X : jX} (hs : X.1.stackTraces = false) {d : Nat} (hd : 42 ≤ d) {o : Nat} {S S' : StX} {w : List jC} (hI : LI o S S' w) (p0 : Int32) (p1 : Int32) (p2 : Int32) {kc ks : Nat} (hkc : 3 ≤ kc) (hks : 18 ≤ ks) : jMet X mL_exchange d kc ks [.ref 0, .int p0, .int p1, .int p2, .ref o] w (pJ (fun v w' => ∃ (k : Nat) (x : Int32) (S2 : StX), AG (isN p0 6 ∧ isN p1 S.1 ∧ isN p2 S.1) (True) (Dexchange S p0 p1 p2) S k x S2 ∧ v = nI k ∧ LI o S2 S' w' ∧ (k = 0 → ∃ s, w'[o]? = some (.inr (8, [.long x.toInt64, s]))))) := by
  refine jMet_of hs (by decide +kernel) (Nat.le_of_ble_eq_true rfl) (L := [some (.ref 0), some (.int p0), some (.int p1), some (.int p2), some (.ref o), none]) rfl ?_
  obtain ⟨f0, h0⟩ := hI.c0
  refine J_aload (pc := 0) dL_exchange_0 rfl rfl ?_
  refine J_aload_n (pc := 2) dL_exchange_2 rfl rfl rfl ?_
  refine J_iload_n (pc := 3) dL_exchange_3 rfl rfl ?_
  refine J_iload_n (pc := 4) dL_exchange_4 rfl rfl ?_
  refine J_iload_n (pc := 5) dL_exchange_5 rfl rfl ?_
  refine J_callV (pc := 6) (M := mL_exchange) (as := [.int p0, .int p1, .int p2]) dL_exchange_6 fw_X6_exchange fl_L_27 fm_X6_exchange fe_X6_exchange h0 (by decide) rfl rfl rfl (uu_exchange hs (d := d - 1) (by omega) hI p0 p1 p2 (kc := 3) (ks := 18) (Nat.le_refl _) (Nat.le_refl _)) (by omega) hkc hks (st := [.ref o]) (Nat.le_of_ble_eq_true rfl) rfl (kr_X (kr_J fun v w1 hI1 => ?_)) (kx_X fun E w1 hx => ?_)
  · obtain ⟨S2, hA, hI1⟩ := hI1
    refine J_i2l (pc := 9) dL_exchange_9 ?_
    obtain ⟨_, fs, h24, hl24⟩ := hI1.lo
    obtain ⟨f1, f2, rfl⟩ := two hl24
    refine J_putN (pc := 10) (k := 0) dL_exchange_10 kC8 (by decide) ff_L_13 rfl rfl h24 (by decide : (0 : Nat) < 2) (fun w2 hln2 hw2 hne2 => ?_)
    refine J_goto (pc := 13) (tgt := 20) dL_exchange_13 (by decide) ?_
    refine J_iconst (pc := 20) (v := nI 0) dL_exchange_20 (by decide) ?_
    exact J_iret (pc := 21) dL_exchange_21 rfl ⟨0, v, S2, hA, rfl, hI1.out hl24 hw2 hne2, fun _ => ⟨f2, hw2⟩⟩
  · obtain ⟨hE, hI1⟩ := hx
    obtain ⟨hE, hA⟩ := hE
    subst hE
    exact JX_catch1 rfl (by decide) (by decide) fc_L_25 fcast_IndexOutOfBoundsException (Or.inr ⟨5, dL_exchange_16, by decide, 1, dL_exchange_18, rfl, dL_exchange_19⟩) rfl ⟨1, 0, S, hA, rfl, hI1, fun h => absurd h (by decide)⟩
set_option maxRecDepth 100000 in
set_option maxHeartbeats 4000000 in
theorem c_L_ring {X : jX} (hs : X.1.stackTraces = false) {d : Nat} (hd : 42 ≤ d) {o : Nat} {S S' : StX} {w : List jC} (hI : LI o S S' w) (p0 : Int32) (p1 : Int32) (p2 : Int32) (p3 : Int32) {kc ks : Nat} (hkc : 5 ≤ kc) (hks : 30 ≤ ks) : jMet X mL_ring d kc ks [.ref 0, .int p0, .int p1, .int p2, .int p3, .ref o] w (pJ (fun v w' => ∃ (k : Nat) (x : Int32) (S2 : StX), AG (isN p0 6 ∧ isN p1 S.1 ∧ isN p2 S.1 ∧ isN p3 S.1) (p1 ≠ p2 ∧ p2 ≠ p3 ∧ p3 ≠ p1) (Dring S p0 p1 p2 p3) S k x S2 ∧ v = nI k ∧ LI o S2 S' w' ∧ (k = 0 → ∃ s, w'[o]? = some (.inr (8, [.long x.toInt64, s]))))) := by
  refine jMet_of hs (by decide +kernel) (Nat.le_of_ble_eq_true rfl) (L := [some (.ref 0), some (.int p0), some (.int p1), some (.int p2), some (.int p3), some (.ref o), none]) rfl ?_
  obtain ⟨f0, h0⟩ := hI.c0
  refine J_aload (pc := 0) dL_ring_0 rfl rfl ?_
  refine J_aload_n (pc := 2) dL_ring_2 rfl rfl rfl ?_
  refine J_iload_n (pc := 3) dL_ring_3 rfl rfl ?_
  refine J_iload_n (pc := 4) dL_ring_4 rfl rfl ?_
  refine J_iload_n (pc := 5) dL_ring_5 rfl rfl ?_
  refine J_iload (pc := 6) dL_ring_6 rfl ?_
  refine J_callV (pc := 8) (M := mL_ring) (as := [.int p0, .int p1, .int p2, .int p3]) dL_ring_8 fw_X6_ring fl_L_31 fm_X6_ring fe_X6_ring h0 (by decide) rfl rfl rfl (uu_ring hs (d := d - 1) (by omega) hI p0 p1 p2 p3 (kc := 5) (ks := 30) (Nat.le_refl _) (Nat.le_refl _)) (by omega) hkc hks (st := [.ref o]) (Nat.le_of_ble_eq_true rfl) rfl (kr_X (kr_J fun v w1 hI1 => ?_)) (kx_X fun E w1 hx => ?_)
  · obtain ⟨S2, hA, hI1⟩ := hI1
    refine J_i2l (pc := 11) dL_ring_11 ?_
    obtain ⟨_, fs, h24, hl24⟩ := hI1.lo
    obtain ⟨f1, f2, rfl⟩ := two hl24
    refine J_putN (pc := 12) (k := 0) dL_ring_12 kC8 (by decide) ff_L_13 rfl rfl h24 (by decide : (0 : Nat) < 2) (fun w2 hln2 hw2 hne2 => ?_)
    refine J_goto (pc := 15) (tgt := 26) dL_ring_15 (by decide) ?_
    refine J_iconst (pc := 26) (v := nI 0) dL_ring_26 (by decide) ?_
    exact J_iret (pc := 27) dL_ring_27 rfl ⟨0, v, S2, hA, rfl, hI1.out hl24 hw2 hne2, fun _ => ⟨f2, hw2⟩⟩
  · obtain ⟨hE, hI1⟩ := hx
    rcases hE with ⟨rfl, hA⟩ | ⟨rfl, hA⟩
    · exact JX_catch1 rfl (by decide) (by decide) fc_L_25 fcast_IndexOutOfBoundsException (Or.inr ⟨6, dL_ring_18, by decide, 1, dL_ring_20, rfl, dL_ring_21⟩) rfl ⟨1, 0, S, hA, rfl, hI1, fun h => absurd h (by decide)⟩
    · exact JX_catch2 rfl (by decide) fc_L_25 (List.mem_singleton.mpr rfl) (by decide) (by decide) fc_L_19 fcast_IllegalArgumentException (Or.inr ⟨6, dL_ring_22, by decide, 2, dL_ring_24, rfl, dL_ring_25⟩) rfl ⟨2, 0, S, hA, rfl, hI1, fun h => absurd h (by decide)⟩
set_option maxRecDepth 100000 in
set_option maxHeartbeats 4000000 in
theorem c_L_turn {X : jX} (hs : X.1.stackTraces = false) {d : Nat} (hd : 42 ≤ d) {o : Nat} {S S' : StX} {w : List jC} (hI : LI o S S' w) (p0 : Int32) (p1 : Int32) {kc ks : Nat} (hkc : 2 ≤ kc) (hks : 12 ≤ ks) : jMet X mL_turn d kc ks [.ref 0, .int p0, .int p1, .ref o] w (pJ (fun v w' => ∃ (k : Nat) (x : Int32) (S2 : StX), AG (isN p0 6) ((-100) ≤ p1 ∧ p1 ≤ nI 100) (Dturn S p0 p1) S k x S2 ∧ v = nI k ∧ LI o S2 S' w' ∧ (k = 0 → ∃ s, w'[o]? = some (.inr (8, [.long x.toInt64, s]))))) := by
  refine jMet_of hs (by decide +kernel) (Nat.le_of_ble_eq_true rfl) (L := [some (.ref 0), some (.int p0), some (.int p1), some (.ref o), none]) rfl ?_
  obtain ⟨f0, h0⟩ := hI.c0
  refine J_aload_n (pc := 0) dL_turn_0 rfl rfl rfl ?_
  refine J_aload_n (pc := 1) dL_turn_1 rfl rfl rfl ?_
  refine J_iload_n (pc := 2) dL_turn_2 rfl rfl ?_
  refine J_iload_n (pc := 3) dL_turn_3 rfl rfl ?_
  refine J_callV (pc := 4) (M := mL_turn) (as := [.int p0, .int p1]) dL_turn_4 fw_X6_turn fl_L_35 fm_X6_turn fe_X6_turn h0 (by decide) rfl rfl rfl (uu_turn hs (d := d - 1) (by omega) hI p0 p1 (kc := 2) (ks := 12) (Nat.le_refl _) (Nat.le_refl _)) (by omega) hkc hks (st := [.ref o]) (Nat.le_of_ble_eq_true rfl) rfl (kr_X (kr_J fun v w1 hI1 => ?_)) (kx_X fun E w1 hx => ?_)
  · obtain ⟨S2, hA, hI1⟩ := hI1
    refine J_i2l (pc := 7) dL_turn_7 ?_
    obtain ⟨_, fs, h24, hl24⟩ := hI1.lo
    obtain ⟨f1, f2, rfl⟩ := two hl24
    refine J_putN (pc := 8) (k := 0) dL_turn_8 kC8 (by decide) ff_L_13 rfl rfl h24 (by decide : (0 : Nat) < 2) (fun w2 hln2 hw2 hne2 => ?_)
    refine J_goto (pc := 11) (tgt := 22) dL_turn_11 (by decide) ?_
    refine J_iconst (pc := 22) (v := nI 0) dL_turn_22 (by decide) ?_
    exact J_iret (pc := 23) dL_turn_23 rfl ⟨0, v, S2, hA, rfl, hI1.out hl24 hw2 hne2, fun _ => ⟨f2, hw2⟩⟩
  · obtain ⟨hE, hI1⟩ := hx
    rcases hE with ⟨rfl, hA⟩ | ⟨rfl, hA⟩
    · exact JX_catch1 rfl (by decide) (by decide) fc_L_25 fcast_IndexOutOfBoundsException (Or.inr ⟨4, dL_turn_14, by decide, 1, dL_turn_16, rfl, dL_turn_17⟩) rfl ⟨1, 0, S, hA, rfl, hI1, fun h => absurd h (by decide)⟩
    · exact JX_catch2 rfl (by decide) fc_L_25 (List.mem_singleton.mpr rfl) (by decide) (by decide) fc_L_19 fcast_IllegalArgumentException (Or.inr ⟨4, dL_turn_18, by decide, 2, dL_turn_20, rfl, dL_turn_21⟩) rfl ⟨2, 0, S, hA, rfl, hI1, fun h => absurd h (by decide)⟩
set_option maxRecDepth 100000 in
set_option maxHeartbeats 4000000 in
theorem c_L_mirror {X : jX} (hs : X.1.stackTraces = false) {d : Nat} (hd : 42 ≤ d) {o : Nat} {S S' : StX} {w : List jC} (hI : LI o S S' w) (p0 : Int32) {kc ks : Nat} (hkc : 1 ≤ kc) (hks : 6 ≤ ks) : jMet X mL_mirror d kc ks [.ref 0, .int p0, .ref o] w (pJ (fun v w' => ∃ (k : Nat) (x : Int32) (S2 : StX), AG (isN p0 6) (True) (Dmirror S p0) S k x S2 ∧ v = nI k ∧ LI o S2 S' w' ∧ (k = 0 → ∃ s, w'[o]? = some (.inr (8, [.long x.toInt64, s]))))) := by
  refine jMet_of hs (by decide +kernel) (Nat.le_of_ble_eq_true rfl) (L := [some (.ref 0), some (.int p0), some (.ref o), none]) rfl ?_
  obtain ⟨f0, h0⟩ := hI.c0
  refine J_aload_n (pc := 0) dL_mirror_0 rfl rfl rfl ?_
  refine J_aload_n (pc := 1) dL_mirror_1 rfl rfl rfl ?_
  refine J_iload_n (pc := 2) dL_mirror_2 rfl rfl ?_
  refine J_callV (pc := 3) (M := mL_mirror) (as := [.int p0]) dL_mirror_3 fw_X6_mirror fl_L_38 fm_X6_mirror fe_X6_mirror h0 (by decide) rfl rfl rfl (uu_mirror hs (d := d - 1) (by omega) hI p0 (kc := 1) (ks := 6) (Nat.le_refl _) (Nat.le_refl _)) (by omega) hkc hks (st := [.ref o]) (Nat.le_of_ble_eq_true rfl) rfl (kr_X (kr_J fun v w1 hI1 => ?_)) (kx_X fun E w1 hx => ?_)
  · obtain ⟨S2, hA, hI1⟩ := hI1
    refine J_i2l (pc := 6) dL_mirror_6 ?_
    obtain ⟨_, fs, h24, hl24⟩ := hI1.lo
    obtain ⟨f1, f2, rfl⟩ := two hl24
    refine J_putN (pc := 7) (k := 0) dL_mirror_7 kC8 (by decide) ff_L_13 rfl rfl h24 (by decide : (0 : Nat) < 2) (fun w2 hln2 hw2 hne2 => ?_)
    refine J_goto (pc := 10) (tgt := 16) dL_mirror_10 (by decide) ?_
    refine J_iconst (pc := 16) (v := nI 0) dL_mirror_16 (by decide) ?_
    exact J_iret (pc := 17) dL_mirror_17 rfl ⟨0, v, S2, hA, rfl, hI1.out hl24 hw2 hne2, fun _ => ⟨f2, hw2⟩⟩
  · obtain ⟨hE, hI1⟩ := hx
    obtain ⟨hE, hA⟩ := hE
    subst hE
    exact JX_catch1 rfl (by decide) (by decide) fc_L_25 fcast_IndexOutOfBoundsException (Or.inl ⟨3, dL_mirror_13, by decide, 1, dL_mirror_14, rfl, dL_mirror_15⟩) rfl ⟨1, 0, S, hA, rfl, hI1, fun h => absurd h (by decide)⟩
set_option maxRecDepth 100000 in
set_option maxHeartbeats 4000000 in
theorem c_L_copy {X : jX} (hs : X.1.stackTraces = false) {d : Nat} (hd : 42 ≤ d) {o : Nat} {S S' : StX} {w : List jC} (hI : LI o S S' w) (p0 : Int32) (p1 : Int32) {kc ks : Nat} (hkc : 2 ≤ kc) (hks : 12 ≤ ks) : jMet X mL_copy d kc ks [.ref 0, .int p0, .int p1, .ref o] w (pJ (fun v w' => ∃ (k : Nat) (x : Int32) (S2 : StX), AG (isN p0 6 ∧ isN p1 6) (True) (Dcopy S p0 p1) S k x S2 ∧ v = nI k ∧ LI o S2 S' w' ∧ (k = 0 → ∃ s, w'[o]? = some (.inr (8, [.long x.toInt64, s]))))) := by
  refine jMet_of hs (by decide +kernel) (Nat.le_of_ble_eq_true rfl) (L := [some (.ref 0), some (.int p0), some (.int p1), some (.ref o), none]) rfl ?_
  obtain ⟨f0, h0⟩ := hI.c0
  refine J_aload_n (pc := 0) dL_copy_0 rfl rfl rfl ?_
  refine J_aload_n (pc := 1) dL_copy_1 rfl rfl rfl ?_
  refine J_iload_n (pc := 2) dL_copy_2 rfl rfl ?_
  refine J_iload_n (pc := 3) dL_copy_3 rfl rfl ?_
  refine J_callV (pc := 4) (M := mL_copy) (as := [.int p0, .int p1]) dL_copy_4 fw_X6_copy fl_L_41 fm_X6_copy fe_X6_copy h0 (by decide) rfl rfl rfl (uu_copy hs (d := d - 1) (by omega) hI p0 p1 (kc := 2) (ks := 12) (Nat.le_refl _) (Nat.le_refl _)) (by omega) hkc hks (st := [.ref o]) (Nat.le_of_ble_eq_true rfl) rfl (kr_X (kr_J fun v w1 hI1 => ?_)) (kx_X fun E w1 hx => ?_)
  · obtain ⟨S2, hA, hI1⟩ := hI1
    refine J_i2l (pc := 7) dL_copy_7 ?_
    obtain ⟨_, fs, h24, hl24⟩ := hI1.lo
    obtain ⟨f1, f2, rfl⟩ := two hl24
    refine J_putN (pc := 8) (k := 0) dL_copy_8 kC8 (by decide) ff_L_13 rfl rfl h24 (by decide : (0 : Nat) < 2) (fun w2 hln2 hw2 hne2 => ?_)
    refine J_goto (pc := 11) (tgt := 18) dL_copy_11 (by decide) ?_
    refine J_iconst (pc := 18) (v := nI 0) dL_copy_18 (by decide) ?_
    exact J_iret (pc := 19) dL_copy_19 rfl ⟨0, v, S2, hA, rfl, hI1.out hl24 hw2 hne2, fun _ => ⟨f2, hw2⟩⟩
  · obtain ⟨hE, hI1⟩ := hx
    obtain ⟨hE, hA⟩ := hE
    subst hE
    exact JX_catch1 rfl (by decide) (by decide) fc_L_25 fcast_IndexOutOfBoundsException (Or.inr ⟨4, dL_copy_14, by decide, 1, dL_copy_16, rfl, dL_copy_17⟩) rfl ⟨1, 0, S, hA, rfl, hI1, fun h => absurd h (by decide)⟩
set_option maxRecDepth 100000 in
set_option maxHeartbeats 4000000 in
theorem c_L_swap {X : jX} (hs : X.1.stackTraces = false) {d : Nat} (hd : 42 ≤ d) {o : Nat} {S S' : StX} {w : List jC} (hI : LI o S S' w) (p0 : Int32) (p1 : Int32) {kc ks : Nat} (hkc : 2 ≤ kc) (hks : 12 ≤ ks) : jMet X mL_swap d kc ks [.ref 0, .int p0, .int p1, .ref o] w (pJ (fun v w' => ∃ (k : Nat) (x : Int32) (S2 : StX), AG (isN p0 6 ∧ isN p1 6) (True) (Dswap S p0 p1) S k x S2 ∧ v = nI k ∧ LI o S2 S' w' ∧ (k = 0 → ∃ s, w'[o]? = some (.inr (8, [.long x.toInt64, s]))))) := by
  refine jMet_of hs (by decide +kernel) (Nat.le_of_ble_eq_true rfl) (L := [some (.ref 0), some (.int p0), some (.int p1), some (.ref o), none]) rfl ?_
  obtain ⟨f0, h0⟩ := hI.c0
  refine J_aload_n (pc := 0) dL_swap_0 rfl rfl rfl ?_
  refine J_aload_n (pc := 1) dL_swap_1 rfl rfl rfl ?_
  refine J_iload_n (pc := 2) dL_swap_2 rfl rfl ?_
  refine J_iload_n (pc := 3) dL_swap_3 rfl rfl ?_
  refine J_callV (pc := 4) (M := mL_swap) (as := [.int p0, .int p1]) dL_swap_4 fw_X6_swap fl_L_44 fm_X6_swap fe_X6_swap h0 (by decide) rfl rfl rfl (uu_swap hs (d := d - 1) (by omega) hI p0 p1 (kc := 2) (ks := 12) (Nat.le_refl _) (Nat.le_refl _)) (by omega) hkc hks (st := [.ref o]) (Nat.le_of_ble_eq_true rfl) rfl (kr_X (kr_J fun v w1 hI1 => ?_)) (kx_X fun E w1 hx => ?_)
  · obtain ⟨S2, hA, hI1⟩ := hI1
    refine J_i2l (pc := 7) dL_swap_7 ?_
    obtain ⟨_, fs, h24, hl24⟩ := hI1.lo
    obtain ⟨f1, f2, rfl⟩ := two hl24
    refine J_putN (pc := 8) (k := 0) dL_swap_8 kC8 (by decide) ff_L_13 rfl rfl h24 (by decide : (0 : Nat) < 2) (fun w2 hln2 hw2 hne2 => ?_)
    refine J_goto (pc := 11) (tgt := 18) dL_swap_11 (by decide) ?_
    refine J_iconst (pc := 18) (v := nI 0) dL_swap_18 (by decide) ?_
    exact J_iret (pc := 19) dL_swap_19 rfl ⟨0, v, S2, hA, rfl, hI1.out hl24 hw2 hne2, fun _ => ⟨f2, hw2⟩⟩
  · obtain ⟨hE, hI1⟩ := hx
    obtain ⟨hE, hA⟩ := hE
    subst hE
    exact JX_catch1 rfl (by decide) (by decide) fc_L_25 fcast_IndexOutOfBoundsException (Or.inr ⟨4, dL_swap_14, by decide, 1, dL_swap_16, rfl, dL_swap_17⟩) rfl ⟨1, 0, S, hA, rfl, hI1, fun h => absurd h (by decide)⟩
set_option maxRecDepth 100000 in
set_option maxHeartbeats 4000000 in
theorem c_L_then {X : jX} (hs : X.1.stackTraces = false) {d : Nat} (hd : 42 ≤ d) {o : Nat} {S S' : StX} {w : List jC} (hI : LI o S S' w) (p0 : Int32) (p1 : Int32) (p2 : Int32) {kc ks : Nat} (hkc : 3 ≤ kc) (hks : 18 ≤ ks) : jMet X mL_then d kc ks [.ref 0, .int p0, .int p1, .int p2, .ref o] w (pJ (fun v w' => ∃ (k : Nat) (x : Int32) (S2 : StX), AG (isN p0 6 ∧ isN p1 6 ∧ isN p2 6) (True) (Dthen S p0 p1 p2) S k x S2 ∧ v = nI k ∧ LI o S2 S' w' ∧ (k = 0 → ∃ s, w'[o]? = some (.inr (8, [.long x.toInt64, s]))))) := by
  refine jMet_of hs (by decide +kernel) (Nat.le_of_ble_eq_true rfl) (L := [some (.ref 0), some (.int p0), some (.int p1), some (.int p2), some (.ref o), none]) rfl ?_
  obtain ⟨f0, h0⟩ := hI.c0
  refine J_aload (pc := 0) dL_then_0 rfl rfl ?_
  refine J_aload_n (pc := 2) dL_then_2 rfl rfl rfl ?_
  refine J_iload_n (pc := 3) dL_then_3 rfl rfl ?_
  refine J_iload_n (pc := 4) dL_then_4 rfl rfl ?_
  refine J_iload_n (pc := 5) dL_then_5 rfl rfl ?_
  refine J_callV (pc := 6) (M := mL_then) (as := [.int p0, .int p1, .int p2]) dL_then_6 fw_X6_then fl_L_47 fm_X6_then fe_X6_then h0 (by decide) rfl rfl rfl (uu_then hs (d := d - 1) (by omega) hI p0 p1 p2 (kc := 3) (ks := 18) (Nat.le_refl _) (Nat.le_refl _)) (by omega) hkc hks (st := [.ref o]) (Nat.le_of_ble_eq_true rfl) rfl (kr_X (kr_J fun v w1 hI1 => ?_)) (kx_X fun E w1 hx => ?_)
  · obtain ⟨S2, hA, hI1⟩ := hI1
    refine J_i2l (pc := 9) dL_then_9 ?_
    obtain ⟨_, fs, h24, hl24⟩ := hI1.lo
    obtain ⟨f1, f2, rfl⟩ := two hl24
    refine J_putN (pc := 10) (k := 0) dL_then_10 kC8 (by decide) ff_L_13 rfl rfl h24 (by decide : (0 : Nat) < 2) (fun w2 hln2 hw2 hne2 => ?_)
    refine J_goto (pc := 13) (tgt := 20) dL_then_13 (by decide) ?_
    refine J_iconst (pc := 20) (v := nI 0) dL_then_20 (by decide) ?_
    exact J_iret (pc := 21) dL_then_21 rfl ⟨0, v, S2, hA, rfl, hI1.out hl24 hw2 hne2, fun _ => ⟨f2, hw2⟩⟩
  · obtain ⟨hE, hI1⟩ := hx
    obtain ⟨hE, hA⟩ := hE
    subst hE
    exact JX_catch1 rfl (by decide) (by decide) fc_L_25 fcast_IndexOutOfBoundsException (Or.inr ⟨5, dL_then_16, by decide, 1, dL_then_18, rfl, dL_then_19⟩) rfl ⟨1, 0, S, hA, rfl, hI1, fun h => absurd h (by decide)⟩
set_option maxRecDepth 100000 in
set_option maxHeartbeats 4000000 in
theorem c_L_undo {X : jX} (hs : X.1.stackTraces = false) {d : Nat} (hd : 42 ≤ d) {o : Nat} {S S' : StX} {w : List jC} (hI : LI o S S' w) (p0 : Int32) (p1 : Int32) {kc ks : Nat} (hkc : 2 ≤ kc) (hks : 12 ≤ ks) : jMet X mL_undo d kc ks [.ref 0, .int p0, .int p1, .ref o] w (pJ (fun v w' => ∃ (k : Nat) (x : Int32) (S2 : StX), AG (isN p0 6 ∧ isN p1 6) (True) (Dundo S p0 p1) S k x S2 ∧ v = nI k ∧ LI o S2 S' w' ∧ (k = 0 → ∃ s, w'[o]? = some (.inr (8, [.long x.toInt64, s]))))) := by
  refine jMet_of hs (by decide +kernel) (Nat.le_of_ble_eq_true rfl) (L := [some (.ref 0), some (.int p0), some (.int p1), some (.ref o), none]) rfl ?_
  obtain ⟨f0, h0⟩ := hI.c0
  refine J_aload_n (pc := 0) dL_undo_0 rfl rfl rfl ?_
  refine J_aload_n (pc := 1) dL_undo_1 rfl rfl rfl ?_
  refine J_iload_n (pc := 2) dL_undo_2 rfl rfl ?_
  refine J_iload_n (pc := 3) dL_undo_3 rfl rfl ?_
  refine J_callV (pc := 4) (M := mL_undo) (as := [.int p0, .int p1]) dL_undo_4 fw_X6_undo fl_L_50 fm_X6_undo fe_X6_undo h0 (by decide) rfl rfl rfl (uu_undo hs (d := d - 1) (by omega) hI p0 p1 (kc := 2) (ks := 12) (Nat.le_refl _) (Nat.le_refl _)) (by omega) hkc hks (st := [.ref o]) (Nat.le_of_ble_eq_true rfl) rfl (kr_X (kr_J fun v w1 hI1 => ?_)) (kx_X fun E w1 hx => ?_)
  · obtain ⟨S2, hA, hI1⟩ := hI1
    refine J_i2l (pc := 7) dL_undo_7 ?_
    obtain ⟨_, fs, h24, hl24⟩ := hI1.lo
    obtain ⟨f1, f2, rfl⟩ := two hl24
    refine J_putN (pc := 8) (k := 0) dL_undo_8 kC8 (by decide) ff_L_13 rfl rfl h24 (by decide : (0 : Nat) < 2) (fun w2 hln2 hw2 hne2 => ?_)
    refine J_goto (pc := 11) (tgt := 18) dL_undo_11 (by decide) ?_
    refine J_iconst (pc := 18) (v := nI 0) dL_undo_18 (by decide) ?_
    exact J_iret (pc := 19) dL_undo_19 rfl ⟨0, v, S2, hA, rfl, hI1.out hl24 hw2 hne2, fun _ => ⟨f2, hw2⟩⟩
  · obtain ⟨hE, hI1⟩ := hx
    obtain ⟨hE, hA⟩ := hE
    subst hE
    exact JX_catch1 rfl (by decide) (by decide) fc_L_25 fcast_IndexOutOfBoundsException (Or.inr ⟨4, dL_undo_14, by decide, 1, dL_undo_16, rfl, dL_undo_17⟩) rfl ⟨1, 0, S, hA, rfl, hI1, fun h => absurd h (by decide)⟩
set_option maxRecDepth 100000 in
set_option maxHeartbeats 4000000 in
theorem c_L_power {X : jX} (hs : X.1.stackTraces = false) {d : Nat} (hd : 42 ≤ d) {o : Nat} {S S' : StX} {w : List jC} (hI : LI o S S' w) (p0 : Int32) (p1 : Int32) (p2 : Int32) {kc ks : Nat} (hkc : 3 ≤ kc) (hks : 18 ≤ ks) : jMet X mL_power d kc ks [.ref 0, .int p0, .int p1, .int p2, .ref o] w (pJ (fun v w' => ∃ (k : Nat) (x : Int32) (S2 : StX), AG (isN p0 6 ∧ isN p2 6) ((-1000) ≤ p1 ∧ p1 ≤ nI 1000) (Dpower S p0 p1 p2) S k x S2 ∧ v = nI k ∧ LI o S2 S' w' ∧ (k = 0 → ∃ s, w'[o]? = some (.inr (8, [.long x.toInt64, s]))))) := by
  refine jMet_of hs (by decide +kernel) (Nat.le_of_ble_eq_true rfl) (L := [some (.ref 0), some (.int p0), some (.int p1), some (.int p2), some (.ref o), none]) rfl ?_
  obtain ⟨f0, h0⟩ := hI.c0
  refine J_aload (pc := 0) dL_power_0 rfl rfl ?_
  refine J_aload_n (pc := 2) dL_power_2 rfl rfl rfl ?_
  refine J_iload_n (pc := 3) dL_power_3 rfl rfl ?_
  refine J_iload_n (pc := 4) dL_power_4 rfl rfl ?_
  refine J_iload_n (pc := 5) dL_power_5 rfl rfl ?_
  refine J_callV (pc := 6) (M := mL_power) (as := [.int p0, .int p1, .int p2]) dL_power_6 fw_X6_power fl_L_53 fm_X6_power fe_X6_power h0 (by decide) rfl rfl rfl (uu_power hs (d := d - 1) (by omega) hI p0 p1 p2 (kc := 3) (ks := 18) (Nat.le_refl _) (Nat.le_refl _)) (by omega) hkc hks (st := [.ref o]) (Nat.le_of_ble_eq_true rfl) rfl (kr_X (kr_J fun v w1 hI1 => ?_)) (kx_X fun E w1 hx => ?_)
  · obtain ⟨S2, hA, hI1⟩ := hI1
    refine J_i2l (pc := 9) dL_power_9 ?_
    obtain ⟨_, fs, h24, hl24⟩ := hI1.lo
    obtain ⟨f1, f2, rfl⟩ := two hl24
    refine J_putN (pc := 10) (k := 0) dL_power_10 kC8 (by decide) ff_L_13 rfl rfl h24 (by decide : (0 : Nat) < 2) (fun w2 hln2 hw2 hne2 => ?_)
    refine J_goto (pc := 13) (tgt := 24) dL_power_13 (by decide) ?_
    refine J_iconst (pc := 24) (v := nI 0) dL_power_24 (by decide) ?_
    exact J_iret (pc := 25) dL_power_25 rfl ⟨0, v, S2, hA, rfl, hI1.out hl24 hw2 hne2, fun _ => ⟨f2, hw2⟩⟩
  · obtain ⟨hE, hI1⟩ := hx
    rcases hE with ⟨rfl, hA⟩ | ⟨rfl, hA⟩
    · exact JX_catch1 rfl (by decide) (by decide) fc_L_25 fcast_IndexOutOfBoundsException (Or.inr ⟨5, dL_power_16, by decide, 1, dL_power_18, rfl, dL_power_19⟩) rfl ⟨1, 0, S, hA, rfl, hI1, fun h => absurd h (by decide)⟩
    · exact JX_catch2 rfl (by decide) fc_L_25 (List.mem_singleton.mpr rfl) (by decide) (by decide) fc_L_19 fcast_IllegalArgumentException (Or.inr ⟨5, dL_power_20, by decide, 2, dL_power_22, rfl, dL_power_23⟩) rfl ⟨2, 0, S, hA, rfl, hI1, fun h => absurd h (by decide)⟩
set_option maxRecDepth 100000 in
set_option maxHeartbeats 4000000 in
theorem c_L_rename {X : jX} (hs : X.1.stackTraces = false) {d : Nat} (hd : 42 ≤ d) {o : Nat} {S S' : StX} {w : List jC} (hI : LI o S S' w) (p0 : Int32) (p1 : Int32) (p2 : Int32) {kc ks : Nat} (hkc : 3 ≤ kc) (hks : 18 ≤ ks) : jMet X mL_rename d kc ks [.ref 0, .int p0, .int p1, .int p2, .ref o] w (pJ (fun v w' => ∃ (k : Nat) (x : Int32) (S2 : StX), AG (isN p0 6 ∧ isN p1 6 ∧ isN p2 6) (True) (Drename S p0 p1 p2) S k x S2 ∧ v = nI k ∧ LI o S2 S' w' ∧ (k = 0 → ∃ s, w'[o]? = some (.inr (8, [.long x.toInt64, s]))))) := by
  refine jMet_of hs (by decide +kernel) (Nat.le_of_ble_eq_true rfl) (L := [some (.ref 0), some (.int p0), some (.int p1), some (.int p2), some (.ref o), none]) rfl ?_
  obtain ⟨f0, h0⟩ := hI.c0
  refine J_aload (pc := 0) dL_rename_0 rfl rfl ?_
  refine J_aload_n (pc := 2) dL_rename_2 rfl rfl rfl ?_
  refine J_iload_n (pc := 3) dL_rename_3 rfl rfl ?_
  refine J_iload_n (pc := 4) dL_rename_4 rfl rfl ?_
  refine J_iload_n (pc := 5) dL_rename_5 rfl rfl ?_
  refine J_callV (pc := 6) (M := mL_rename) (as := [.int p0, .int p1, .int p2]) dL_rename_6 fw_X6_rename fl_L_56 fm_X6_rename fe_X6_rename h0 (by decide) rfl rfl rfl (uu_rename hs (d := d - 1) (by omega) hI p0 p1 p2 (kc := 3) (ks := 18) (Nat.le_refl _) (Nat.le_refl _)) (by omega) hkc hks (st := [.ref o]) (Nat.le_of_ble_eq_true rfl) rfl (kr_X (kr_J fun v w1 hI1 => ?_)) (kx_X fun E w1 hx => ?_)
  · obtain ⟨S2, hA, hI1⟩ := hI1
    refine J_i2l (pc := 9) dL_rename_9 ?_
    obtain ⟨_, fs, h24, hl24⟩ := hI1.lo
    obtain ⟨f1, f2, rfl⟩ := two hl24
    refine J_putN (pc := 10) (k := 0) dL_rename_10 kC8 (by decide) ff_L_13 rfl rfl h24 (by decide : (0 : Nat) < 2) (fun w2 hln2 hw2 hne2 => ?_)
    refine J_goto (pc := 13) (tgt := 20) dL_rename_13 (by decide) ?_
    refine J_iconst (pc := 20) (v := nI 0) dL_rename_20 (by decide) ?_
    exact J_iret (pc := 21) dL_rename_21 rfl ⟨0, v, S2, hA, rfl, hI1.out hl24 hw2 hne2, fun _ => ⟨f2, hw2⟩⟩
  · obtain ⟨hE, hI1⟩ := hx
    obtain ⟨hE, hA⟩ := hE
    subst hE
    exact JX_catch1 rfl (by decide) (by decide) fc_L_25 fcast_IndexOutOfBoundsException (Or.inr ⟨5, dL_rename_16, by decide, 1, dL_rename_18, rfl, dL_rename_19⟩) rfl ⟨1, 0, S, hA, rfl, hI1, fun h => absurd h (by decide)⟩
set_option maxRecDepth 100000 in
set_option maxHeartbeats 4000000 in
theorem c_L_match {X : jX} (hs : X.1.stackTraces = false) {d : Nat} (hd : 42 ≤ d) {o : Nat} {S S' : StX} {w : List jC} (hI : LI o S S' w) (p0 : Int32) (p1 : Int32) (p2 : Int32) {kc ks : Nat} (hkc : 3 ≤ kc) (hks : 18 ≤ ks) : jMet X mL_match d kc ks [.ref 0, .int p0, .int p1, .int p2, .ref o] w (pJ (fun v w' => ∃ (k : Nat) (x : Int32) (S2 : StX), AG (isN p0 6 ∧ isN p1 6 ∧ isN p2 6) (True) (Dmatch S p0 p1 p2) S k x S2 ∧ v = nI k ∧ LI o S2 S' w' ∧ (k = 0 → ∃ s, w'[o]? = some (.inr (8, [.long x.toInt64, s]))))) := by
  refine jMet_of hs (by decide +kernel) (Nat.le_of_ble_eq_true rfl) (L := [some (.ref 0), some (.int p0), some (.int p1), some (.int p2), some (.ref o), none]) rfl ?_
  obtain ⟨f0, h0⟩ := hI.c0
  refine J_aload (pc := 0) dL_match_0 rfl rfl ?_
  refine J_aload_n (pc := 2) dL_match_2 rfl rfl rfl ?_
  refine J_iload_n (pc := 3) dL_match_3 rfl rfl ?_
  refine J_iload_n (pc := 4) dL_match_4 rfl rfl ?_
  refine J_iload_n (pc := 5) dL_match_5 rfl rfl ?_
  refine J_callV (pc := 6) (M := mL_match) (as := [.int p0, .int p1, .int p2]) dL_match_6 fw_X6_match fl_L_59 fm_X6_match fe_X6_match h0 (by decide) rfl rfl rfl (uu_match hs (d := d - 1) (by omega) hI p0 p1 p2 (kc := 3) (ks := 18) (Nat.le_refl _) (Nat.le_refl _)) (by omega) hkc hks (st := [.ref o]) (Nat.le_of_ble_eq_true rfl) rfl (kr_X (kr_J fun v w1 hI1 => ?_)) (kx_X fun E w1 hx => ?_)
  · obtain ⟨S2, hA, hI1⟩ := hI1
    refine J_i2l (pc := 9) dL_match_9 ?_
    obtain ⟨_, fs, h24, hl24⟩ := hI1.lo
    obtain ⟨f1, f2, rfl⟩ := two hl24
    refine J_putN (pc := 10) (k := 0) dL_match_10 kC8 (by decide) ff_L_13 rfl rfl h24 (by decide : (0 : Nat) < 2) (fun w2 hln2 hw2 hne2 => ?_)
    refine J_goto (pc := 13) (tgt := 20) dL_match_13 (by decide) ?_
    refine J_iconst (pc := 20) (v := nI 0) dL_match_20 (by decide) ?_
    exact J_iret (pc := 21) dL_match_21 rfl ⟨0, v, S2, hA, rfl, hI1.out hl24 hw2 hne2, fun _ => ⟨f2, hw2⟩⟩
  · obtain ⟨hE, hI1⟩ := hx
    obtain ⟨hE, hA⟩ := hE
    subst hE
    exact JX_catch1 rfl (by decide) (by decide) fc_L_25 fcast_IndexOutOfBoundsException (Or.inr ⟨5, dL_match_16, by decide, 1, dL_match_18, rfl, dL_match_19⟩) rfl ⟨1, 0, S, hA, rfl, hI1, fun h => absurd h (by decide)⟩
set_option maxRecDepth 100000 in
set_option maxHeartbeats 4000000 in
theorem c_L_nth {X : jX} (hs : X.1.stackTraces = false) {d : Nat} (hd : 42 ≤ d) {o : Nat} {S S' : StX} {w : List jC} (hI : LI o S S' w) (p0 : Int32) (p1 : Int32) (p2 : Int32) (p3 : Int32) {kc ks : Nat} (hkc : 4 ≤ kc) (hks : 24 ≤ ks) : jMet X mL_nth d kc ks [.ref 0, .int p0, .int p1, .int p2, .int p3, .ref o] w (pJ (fun v w' => ∃ (k : Nat) (x : Int32) (S2 : StX), AG (isN p1 6 ∧ isN p3 6) (isN p0 64 ∧ 0 ≤ p2) (Dnth S p0 p1 p2 p3) S k x S2 ∧ v = nI k ∧ LI o S2 S' w' ∧ (k = 0 → ∃ s, w'[o]? = some (.inr (8, [.long x.toInt64, s]))))) := by
  refine jMet_of hs (by decide +kernel) (Nat.le_of_ble_eq_true rfl) (L := [some (.ref 0), some (.int p0), some (.int p1), some (.int p2), some (.int p3), some (.ref o), none]) rfl ?_
  obtain ⟨f0, h0⟩ := hI.c0
  refine J_aload (pc := 0) dL_nth_0 rfl rfl ?_
  refine J_aload_n (pc := 2) dL_nth_2 rfl rfl rfl ?_
  refine J_iload_n (pc := 3) dL_nth_3 rfl rfl ?_
  refine J_iload_n (pc := 4) dL_nth_4 rfl rfl ?_
  refine J_iload_n (pc := 5) dL_nth_5 rfl rfl ?_
  refine J_iload (pc := 6) dL_nth_6 rfl ?_
  refine J_callV (pc := 8) (M := mL_nth) (as := [.int p0, .int p1, .int p2, .int p3]) dL_nth_8 fw_X6_nth fl_L_62 fm_X6_nth fe_X6_nth h0 (by decide) rfl rfl rfl (uu_nth hs (d := d - 1) (by omega) hI p0 p1 p2 p3 (kc := 4) (ks := 24) (Nat.le_refl _) (Nat.le_refl _)) (by omega) hkc hks (st := [.ref o]) (Nat.le_of_ble_eq_true rfl) rfl (kr_X (kr_J fun v w1 hI1 => ?_)) (kx_X fun E w1 hx => ?_)
  · obtain ⟨S2, hA, hI1⟩ := hI1
    refine J_i2l (pc := 11) dL_nth_11 ?_
    obtain ⟨_, fs, h24, hl24⟩ := hI1.lo
    obtain ⟨f1, f2, rfl⟩ := two hl24
    refine J_putN (pc := 12) (k := 0) dL_nth_12 kC8 (by decide) ff_L_13 rfl rfl h24 (by decide : (0 : Nat) < 2) (fun w2 hln2 hw2 hne2 => ?_)
    refine J_goto (pc := 15) (tgt := 26) dL_nth_15 (by decide) ?_
    refine J_iconst (pc := 26) (v := nI 0) dL_nth_26 (by decide) ?_
    exact J_iret (pc := 27) dL_nth_27 rfl ⟨0, v, S2, hA, rfl, hI1.out hl24 hw2 hne2, fun _ => ⟨f2, hw2⟩⟩
  · obtain ⟨hE, hI1⟩ := hx
    rcases hE with ⟨rfl, hA⟩ | ⟨rfl, hA⟩
    · exact JX_catch1 rfl (by decide) (by decide) fc_L_25 fcast_IndexOutOfBoundsException (Or.inr ⟨6, dL_nth_18, by decide, 1, dL_nth_20, rfl, dL_nth_21⟩) rfl ⟨1, 0, S, hA, rfl, hI1, fun h => absurd h (by decide)⟩
    · exact JX_catch2 rfl (by decide) fc_L_25 (List.mem_singleton.mpr rfl) (by decide) (by decide) fc_L_19 fcast_IllegalArgumentException (Or.inr ⟨6, dL_nth_22, by decide, 2, dL_nth_24, rfl, dL_nth_25⟩) rfl ⟨2, 0, S, hA, rfl, hI1, fun h => absurd h (by decide)⟩
set_option maxRecDepth 100000 in
set_option maxHeartbeats 4000000 in
theorem c_L_number {X : jX} (hs : X.1.stackTraces = false) {d : Nat} (hd : 42 ≤ d) {o : Nat} {S S' : StX} {w : List jC} (hI : LI o S S' w) (p0 : Int32) {kc ks : Nat} (hkc : 1 ≤ kc) (hks : 6 ≤ ks) : jMet X mL_number d kc ks [.ref 0, .int p0, .ref o] w (pJ (fun v w' => ∃ (k : Nat) (x : Int32) (S2 : StX), AG (isN p0 6) (True) (Dnumber S p0) S k x S2 ∧ v = nI k ∧ LI o S2 S' w' ∧ (k = 0 → ∃ s, w'[o]? = some (.inr (8, [.long x.toInt64, s]))))) := by
  refine jMet_of hs (by decide +kernel) (Nat.le_of_ble_eq_true rfl) (L := [some (.ref 0), some (.int p0), some (.ref o), none]) rfl ?_
  obtain ⟨f0, h0⟩ := hI.c0
  refine J_aload_n (pc := 0) dL_number_0 rfl rfl rfl ?_
  refine J_aload_n (pc := 1) dL_number_1 rfl rfl rfl ?_
  refine J_iload_n (pc := 2) dL_number_2 rfl rfl ?_
  refine J_callV (pc := 3) (M := mL_number) (as := [.int p0]) dL_number_3 fw_X6_number fl_L_65 fm_X6_number fe_X6_number h0 (by decide) rfl rfl rfl (uu_number hs (d := d - 1) (by omega) hI p0 (kc := 1) (ks := 6) (Nat.le_refl _) (Nat.le_refl _)) (by omega) hkc hks (st := [.ref o]) (Nat.le_of_ble_eq_true rfl) rfl (kr_X (kr_J fun v w1 hI1 => ?_)) (kx_X fun E w1 hx => ?_)
  · obtain ⟨S2, hA, hI1⟩ := hI1
    refine J_i2l (pc := 6) dL_number_6 ?_
    obtain ⟨_, fs, h24, hl24⟩ := hI1.lo
    obtain ⟨f1, f2, rfl⟩ := two hl24
    refine J_putN (pc := 7) (k := 0) dL_number_7 kC8 (by decide) ff_L_13 rfl rfl h24 (by decide : (0 : Nat) < 2) (fun w2 hln2 hw2 hne2 => ?_)
    refine J_goto (pc := 10) (tgt := 16) dL_number_10 (by decide) ?_
    refine J_iconst (pc := 16) (v := nI 0) dL_number_16 (by decide) ?_
    exact J_iret (pc := 17) dL_number_17 rfl ⟨0, v, S2, hA, rfl, hI1.out hl24 hw2 hne2, fun _ => ⟨f2, hw2⟩⟩
  · obtain ⟨hE, hI1⟩ := hx
    obtain ⟨hE, hA⟩ := hE
    subst hE
    exact JX_catch1 rfl (by decide) (by decide) fc_L_25 fcast_IndexOutOfBoundsException (Or.inl ⟨3, dL_number_13, by decide, 1, dL_number_14, rfl, dL_number_15⟩) rfl ⟨1, 0, S, hA, rfl, hI1, fun h => absurd h (by decide)⟩
set_option maxRecDepth 100000 in
set_option maxHeartbeats 4000000 in
theorem c_L_goes {X : jX} (hs : X.1.stackTraces = false) {d : Nat} (hd : 42 ≤ d) {o : Nat} {S S' : StX} {w : List jC} (hI : LI o S S' w) (p0 : Int32) (p1 : Int32) {kc ks : Nat} (hkc : 2 ≤ kc) (hks : 12 ≤ ks) : jMet X mL_goes d kc ks [.ref 0, .int p0, .int p1, .ref o] w (pJ (fun v w' => ∃ (k : Nat) (x : Int32) (S2 : StX), AG (isN p0 6 ∧ isN p1 S.1) (True) (Dgoes S p0 p1) S k x S2 ∧ v = nI k ∧ LI o S2 S' w' ∧ (k = 0 → ∃ s, w'[o]? = some (.inr (8, [.long x.toInt64, s]))))) := by
  refine jMet_of hs (by decide +kernel) (Nat.le_of_ble_eq_true rfl) (L := [some (.ref 0), some (.int p0), some (.int p1), some (.ref o), none]) rfl ?_
  obtain ⟨f0, h0⟩ := hI.c0
  refine J_aload_n (pc := 0) dL_goes_0 rfl rfl rfl ?_
  refine J_aload_n (pc := 1) dL_goes_1 rfl rfl rfl ?_
  refine J_iload_n (pc := 2) dL_goes_2 rfl rfl ?_
  refine J_iload_n (pc := 3) dL_goes_3 rfl rfl ?_
  refine J_callV (pc := 4) (M := mL_goes) (as := [.int p0, .int p1]) dL_goes_4 fw_X6_goes fl_L_68 fm_X6_goes fe_X6_goes h0 (by decide) rfl rfl rfl (uu_goes hs (d := d - 1) (by omega) hI p0 p1 (kc := 2) (ks := 12) (Nat.le_refl _) (Nat.le_refl _)) (by omega) hkc hks (st := [.ref o]) (Nat.le_of_ble_eq_true rfl) rfl (kr_X (kr_J fun v w1 hI1 => ?_)) (kx_X fun E w1 hx => ?_)
  · obtain ⟨S2, hA, hI1⟩ := hI1
    refine J_i2l (pc := 7) dL_goes_7 ?_
    obtain ⟨_, fs, h24, hl24⟩ := hI1.lo
    obtain ⟨f1, f2, rfl⟩ := two hl24
    refine J_putN (pc := 8) (k := 0) dL_goes_8 kC8 (by decide) ff_L_13 rfl rfl h24 (by decide : (0 : Nat) < 2) (fun w2 hln2 hw2 hne2 => ?_)
    refine J_goto (pc := 11) (tgt := 18) dL_goes_11 (by decide) ?_
    refine J_iconst (pc := 18) (v := nI 0) dL_goes_18 (by decide) ?_
    exact J_iret (pc := 19) dL_goes_19 rfl ⟨0, v, S2, hA, rfl, hI1.out hl24 hw2 hne2, fun _ => ⟨f2, hw2⟩⟩
  · obtain ⟨hE, hI1⟩ := hx
    obtain ⟨hE, hA⟩ := hE
    subst hE
    exact JX_catch1 rfl (by decide) (by decide) fc_L_25 fcast_IndexOutOfBoundsException (Or.inr ⟨4, dL_goes_14, by decide, 1, dL_goes_16, rfl, dL_goes_17⟩) rfl ⟨1, 0, S, hA, rfl, hI1, fun h => absurd h (by decide)⟩
set_option maxRecDepth 100000 in
set_option maxHeartbeats 4000000 in
theorem c_L_text {X : jX} (hs : X.1.stackTraces = false) {d : Nat} (hd : 42 ≤ d) (hXO : XO X) {o : Nat} {S S' : StX} {w : List jC} (hI : LI o S S' w) (p0 : Int32) {kc ks : Nat} (hkc : 40 ≤ kc) (hks : 1500 ≤ ks) : jMet X mL_text d kc ks [.ref 0, .int p0, .ref o] w (pI (fun _ => True) (LI o S S')) := by
  refine jMet_of hs (by decide +kernel) (Nat.le_of_ble_eq_true rfl) (L := [some (.ref 0), some (.int p0), some (.ref o), none]) rfl ?_
  obtain ⟨f0, h0⟩ := hI.c0
  refine J_aload_n (pc := 0) dL_text_0 rfl rfl rfl ?_
  refine J_aload_n (pc := 1) dL_text_1 rfl rfl rfl ?_
  refine J_iload_n (pc := 2) dL_text_2 rfl rfl ?_
  refine J_callV (pc := 3) (M := mL_text) (as := [.int p0]) dL_text_3 fw_X6_text fl_L_71 fm_X6_text fe_X6_text h0 (by decide) rfl rfl rfl (uu_text hs (d := d - 1) (by omega) hXO hI p0 (kc := 40) (ks := 1500) (Nat.le_refl _) (Nat.le_refl _)) (by omega) hkc hks (st := [.ref o]) (Nat.le_of_ble_eq_true rfl) rfl (kr_X (kr_A fun a w1 hI1 => ?_)) (kx_X fun E w1 hx => ?_)
  · obtain ⟨_, fs, h24, hl24⟩ := hI1.lo
    refine J_putN (pc := 6) (k := 1) dL_text_6 kC8 (by decide) ff_L_75 rfl rfl h24 (by omega) (fun w2 hln2 hw2 hne2 => ?_)
    refine J_goto (pc := 9) (tgt := 15) dL_text_9 (by decide) ?_
    refine J_iconst (pc := 15) (v := nI 0) dL_text_15 (by decide) ?_
    exact J_iret (pc := 16) dL_text_16 rfl ⟨trivial, hI1.out hl24 hw2 hne2⟩
  · obtain ⟨hE, hI1⟩ := hx
    subst hE
    exact JX_catch1 rfl (by decide) (by decide) fc_L_25 fcast_IndexOutOfBoundsException (Or.inl ⟨3, dL_text_12, by decide, 1, dL_text_13, rfl, dL_text_14⟩) rfl ⟨trivial, hI1⟩
set_option maxRecDepth 100000 in
set_option maxHeartbeats 4000000 in
theorem c_L_rings {X : jX} (hs : X.1.stackTraces = false) {d : Nat} (hd : 42 ≤ d) (hXO : XO X) {o : Nat} {S S' : StX} {w : List jC} (hI : LI o S S' w) (p0 : Int32) {kc ks : Nat} (hkc : 40 ≤ kc) (hks : 1500 ≤ ks) : jMet X mL_rings d kc ks [.ref 0, .int p0, .ref o] w (pI (fun _ => True) (LI o S S')) := by
  refine jMet_of hs (by decide +kernel) (Nat.le_of_ble_eq_true rfl) (L := [some (.ref 0), some (.int p0), some (.ref o), none]) rfl ?_
  obtain ⟨f0, h0⟩ := hI.c0
  refine J_aload_n (pc := 0) dL_rings_0 rfl rfl rfl ?_
  refine J_aload_n (pc := 1) dL_rings_1 rfl rfl rfl ?_
  refine J_iload_n (pc := 2) dL_rings_2 rfl rfl ?_
  refine J_callV (pc := 3) (M := mL_rings) (as := [.int p0]) dL_rings_3 fw_X6_rings fl_L_79 fm_X6_rings fe_X6_rings h0 (by decide) rfl rfl rfl (uu_rings hs (d := d - 1) (by omega) hXO hI p0 (kc := 40) (ks := 1500) (Nat.le_refl _) (Nat.le_refl _)) (by omega) hkc hks (st := [.ref o]) (Nat.le_of_ble_eq_true rfl) rfl (kr_X (kr_A fun a w1 hI1 => ?_)) (kx_X fun E w1 hx => ?_)
  · obtain ⟨_, fs, h24, hl24⟩ := hI1.lo
    refine J_putN (pc := 6) (k := 1) dL_rings_6 kC8 (by decide) ff_L_75 rfl rfl h24 (by omega) (fun w2 hln2 hw2 hne2 => ?_)
    refine J_goto (pc := 9) (tgt := 15) dL_rings_9 (by decide) ?_
    refine J_iconst (pc := 15) (v := nI 0) dL_rings_15 (by decide) ?_
    exact J_iret (pc := 16) dL_rings_16 rfl ⟨trivial, hI1.out hl24 hw2 hne2⟩
  · obtain ⟨hE, hI1⟩ := hx
    subst hE
    exact JX_catch1 rfl (by decide) (by decide) fc_L_25 fcast_IndexOutOfBoundsException (Or.inl ⟨3, dL_rings_12, by decide, 1, dL_rings_13, rfl, dL_rings_14⟩) rfl ⟨trivial, hI1⟩
set_option maxRecDepth 100000 in
set_option maxHeartbeats 4000000 in
theorem c_L_ringText {X : jX} (hs : X.1.stackTraces = false) {d : Nat} (hd : 42 ≤ d) (hXO : XO X) {o : Nat} {S S' : StX} {w : List jC} (hI : LI o S S' w) (p0 : Int32) (p1 : Int32) {kc ks : Nat} (hkc : 40 ≤ kc) (hks : 1500 ≤ ks) : jMet X mL_ringText d kc ks [.ref 0, .int p0, .int p1, .ref o] w (pI (fun _ => True) (LI o S S')) := by
  refine jMet_of hs (by decide +kernel) (Nat.le_of_ble_eq_true rfl) (L := [some (.ref 0), some (.int p0), some (.int p1), some (.ref o), none]) rfl ?_
  obtain ⟨f0, h0⟩ := hI.c0
  refine J_aload_n (pc := 0) dL_ringText_0 rfl rfl rfl ?_
  refine J_aload_n (pc := 1) dL_ringText_1 rfl rfl rfl ?_
  refine J_iload_n (pc := 2) dL_ringText_2 rfl rfl ?_
  refine J_iload_n (pc := 3) dL_ringText_3 rfl rfl ?_
  refine J_callV (pc := 4) (M := mL_ringText) (as := [.int p0, .int p1]) dL_ringText_4 fw_X6_ringText fl_L_82 fm_X6_ringText fe_X6_ringText h0 (by decide) rfl rfl rfl (uu_ringText hs (d := d - 1) (by omega) hXO hI p0 p1 (kc := 40) (ks := 1500) (Nat.le_refl _) (Nat.le_refl _)) (by omega) hkc hks (st := [.ref o]) (Nat.le_of_ble_eq_true rfl) rfl (kr_X (kr_A fun a w1 hI1 => ?_)) (kx_X fun E w1 hx => ?_)
  · obtain ⟨_, fs, h24, hl24⟩ := hI1.lo
    refine J_putN (pc := 7) (k := 1) dL_ringText_7 kC8 (by decide) ff_L_75 rfl rfl h24 (by omega) (fun w2 hln2 hw2 hne2 => ?_)
    refine J_goto (pc := 10) (tgt := 17) dL_ringText_10 (by decide) ?_
    refine J_iconst (pc := 17) (v := nI 0) dL_ringText_17 (by decide) ?_
    exact J_iret (pc := 18) dL_ringText_18 rfl ⟨trivial, hI1.out hl24 hw2 hne2⟩
  · obtain ⟨hE, hI1⟩ := hx
    subst hE
    exact JX_catch1 rfl (by decide) (by decide) fc_L_25 fcast_IndexOutOfBoundsException (Or.inr ⟨4, dL_ringText_13, by decide, 1, dL_ringText_15, rfl, dL_ringText_16⟩) rfl ⟨trivial, hI1⟩
set_option maxRecDepth 100000 in
set_option maxHeartbeats 4000000 in
theorem c_L_order {X : jX} (hs : X.1.stackTraces = false) {d : Nat} (hd : 42 ≤ d) {o : Nat} {S S' : StX} {w : List jC} (hI : LI o S S' w) (p0 : Int32) {kc ks : Nat} (hkc : 1 ≤ kc) (hks : 6 ≤ ks) : jMet X mL_order d kc ks [.ref 0, .int p0, .ref o] w (pJ (fun v w' => ∃ (k : Nat) (x : Int32) (S2 : StX), AG (isN p0 6) (True) (Dorder S p0) S k x S2 ∧ v = nI k ∧ LI o S2 S' w' ∧ (k = 0 → ∃ s, w'[o]? = some (.inr (8, [.long x.toInt64, s]))))) := by
  refine jMet_of hs (by decide +kernel) (Nat.le_of_ble_eq_true rfl) (L := [some (.ref 0), some (.int p0), some (.ref o), none]) rfl ?_
  obtain ⟨f0, h0⟩ := hI.c0
  refine J_aload_n (pc := 0) dL_order_0 rfl rfl rfl ?_
  refine J_aload_n (pc := 1) dL_order_1 rfl rfl rfl ?_
  refine J_iload_n (pc := 2) dL_order_2 rfl rfl ?_
  refine J_callV (pc := 3) (M := mL_order) (as := [.int p0]) dL_order_3 fw_X6_order fl_L_86 fm_X6_order fe_X6_order h0 (by decide) rfl rfl rfl (uu_order hs (d := d - 1) (by omega) hI p0 (kc := 1) (ks := 6) (Nat.le_refl _) (Nat.le_refl _)) (by omega) hkc hks (st := [.ref o]) (Nat.le_of_ble_eq_true rfl) rfl (kr_X (kr_J fun v w1 hI1 => ?_)) (kx_X fun E w1 hx => ?_)
  · obtain ⟨S2, hA, hI1⟩ := hI1
    refine J_i2l (pc := 6) dL_order_6 ?_
    obtain ⟨_, fs, h24, hl24⟩ := hI1.lo
    obtain ⟨f1, f2, rfl⟩ := two hl24
    refine J_putN (pc := 7) (k := 0) dL_order_7 kC8 (by decide) ff_L_13 rfl rfl h24 (by decide : (0 : Nat) < 2) (fun w2 hln2 hw2 hne2 => ?_)
    refine J_goto (pc := 10) (tgt := 16) dL_order_10 (by decide) ?_
    refine J_iconst (pc := 16) (v := nI 0) dL_order_16 (by decide) ?_
    exact J_iret (pc := 17) dL_order_17 rfl ⟨0, v, S2, hA, rfl, hI1.out hl24 hw2 hne2, fun _ => ⟨f2, hw2⟩⟩
  · obtain ⟨hE, hI1⟩ := hx
    obtain ⟨hE, hA⟩ := hE
    subst hE
    exact JX_catch1 rfl (by decide) (by decide) fc_L_25 fcast_IndexOutOfBoundsException (Or.inl ⟨3, dL_order_13, by decide, 1, dL_order_14, rfl, dL_order_15⟩) rfl ⟨1, 0, S, hA, rfl, hI1, fun h => absurd h (by decide)⟩
set_option maxRecDepth 100000 in
set_option maxHeartbeats 4000000 in
theorem c_L_sign {X : jX} (hs : X.1.stackTraces = false) {d : Nat} (hd : 42 ≤ d) {o : Nat} {S S' : StX} {w : List jC} (hI : LI o S S' w) (p0 : Int32) {kc ks : Nat} (hkc : 1 ≤ kc) (hks : 6 ≤ ks) : jMet X mL_sign d kc ks [.ref 0, .int p0, .ref o] w (pJ (fun v w' => ∃ (k : Nat) (x : Int32) (S2 : StX), AG (isN p0 6) (True) (Dsign S p0) S k x S2 ∧ v = nI k ∧ LI o S2 S' w' ∧ (k = 0 → ∃ s, w'[o]? = some (.inr (8, [.long x.toInt64, s]))))) := by
  refine jMet_of hs (by decide +kernel) (Nat.le_of_ble_eq_true rfl) (L := [some (.ref 0), some (.int p0), some (.ref o), none]) rfl ?_
  obtain ⟨f0, h0⟩ := hI.c0
  refine J_aload_n (pc := 0) dL_sign_0 rfl rfl rfl ?_
  refine J_aload_n (pc := 1) dL_sign_1 rfl rfl rfl ?_
  refine J_iload_n (pc := 2) dL_sign_2 rfl rfl ?_
  refine J_callV (pc := 3) (M := mL_sign) (as := [.int p0]) dL_sign_3 fw_X6_sign fl_L_89 fm_X6_sign fe_X6_sign h0 (by decide) rfl rfl rfl (uu_sign hs (d := d - 1) (by omega) hI p0 (kc := 1) (ks := 6) (Nat.le_refl _) (Nat.le_refl _)) (by omega) hkc hks (st := [.ref o]) (Nat.le_of_ble_eq_true rfl) rfl (kr_X (kr_J fun v w1 hI1 => ?_)) (kx_X fun E w1 hx => ?_)
  · obtain ⟨S2, hA, hI1⟩ := hI1
    refine J_i2l (pc := 6) dL_sign_6 ?_
    obtain ⟨_, fs, h24, hl24⟩ := hI1.lo
    obtain ⟨f1, f2, rfl⟩ := two hl24
    refine J_putN (pc := 7) (k := 0) dL_sign_7 kC8 (by decide) ff_L_13 rfl rfl h24 (by decide : (0 : Nat) < 2) (fun w2 hln2 hw2 hne2 => ?_)
    refine J_goto (pc := 10) (tgt := 16) dL_sign_10 (by decide) ?_
    refine J_iconst (pc := 16) (v := nI 0) dL_sign_16 (by decide) ?_
    exact J_iret (pc := 17) dL_sign_17 rfl ⟨0, v, S2, hA, rfl, hI1.out hl24 hw2 hne2, fun _ => ⟨f2, hw2⟩⟩
  · obtain ⟨hE, hI1⟩ := hx
    obtain ⟨hE, hA⟩ := hE
    subst hE
    exact JX_catch1 rfl (by decide) (by decide) fc_L_25 fcast_IndexOutOfBoundsException (Or.inl ⟨3, dL_sign_13, by decide, 1, dL_sign_14, rfl, dL_sign_15⟩) rfl ⟨1, 0, S, hA, rfl, hI1, fun h => absurd h (by decide)⟩
