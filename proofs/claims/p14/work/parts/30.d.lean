section
/-! the law's own methods -/
set_option maxRecDepth 100000 in
set_option maxHeartbeats 4000000 in
theorem c_L_points {X : jX} (hs : X.1.stackTraces = false) {d : Nat} (hd : 42 ≤ d) {o : Nat} {S S' : StX} {w : List jC} (hI : LI o S S' w) (p0 : Int32) {kc ks : Nat} (hkc : 1 ≤ kc) (hks : 6 ≤ ks) : jMet X mL_points d kc ks [.ref 0, .int p0, .ref o] w (pJ (fun v w' => ∃ (k : Nat) (x : Int32) (S2 : StX), AG (∃ k : Nat, 2 ≤ k ∧ k ≤ 7 ∧ p0 = nI k) (True) (Dpoints S p0) S k x S2 ∧ v = nI k ∧ LI o S2 S' w' ∧ (k = 0 → ∃ s, w'[o]? = some (.inr (8, [.long x.toInt64, s]))))) := by
  refine jMet_of hs (by decide +kernel) (Nat.le_of_ble_eq_true rfl) (L := [some (.ref 0), some (.int p0), some (.ref o), none]) rfl ?_
  obtain ⟨f0, h0⟩ := hI.c0
  refine J_aload_n (pc := 0) dL_points_0 rfl rfl rfl ?_
  refine J_aload_n (pc := 1) dL_points_1 rfl rfl rfl ?_
  refine J_iload_n (pc := 2) dL_points_2 rfl rfl ?_
  refine J_callV (pc := 3) (M := mL_points) (as := [.int p0]) dL_points_3 fw_X6_points fl_L_7 fm_X6_points fe_X6_points h0 (by decide) rfl rfl rfl (uu_points hs (d := d - 1) (by omega) hI p0 (kc := 1) (ks := 6) (Nat.le_refl _) (Nat.le_refl _)) (by omega) hkc hks (st := [.ref o]) (Nat.le_of_ble_eq_true rfl) rfl (kr_X (kr_J fun v w1 hI1 => ?_)) (kx_X fun E w1 hx => ?_)
  · obtain ⟨S2, hA, hI1⟩ := hI1
    refine J_i2l (pc := 6) dL_points_6 ?_
    obtain ⟨_, fs, h24, hl24⟩ := hI1.lo
    obtain ⟨f1, f2, rfl⟩ := two hl24
    refine J_putN (pc := 7) (k := 0) dL_points_7 kC8 (by decide) ff_L_13 rfl rfl h24 (by decide : (0 : Nat) < 2) (fun w2 hln2 hw2 hne2 => ?_)
    refine J_goto (pc := 10) (tgt := 16) dL_points_10 (by decide) ?_
    refine J_iconst (pc := 16) (v := nI 0) dL_points_16 (by decide) ?_
    exact J_iret (pc := 17) dL_points_17 rfl ⟨0, v, S2, hA, rfl, hI1.out hl24 hw2 hne2, fun _ => ⟨f2, hw2⟩⟩
  · obtain ⟨hE, hI1⟩ := hx
    obtain ⟨hE, hA⟩ := hE
    subst hE
    exact JX_catch1 rfl (by decide) (by decide) fc_L_19 fcast_IllegalArgumentException (Or.inl ⟨3, dL_points_13, by decide, 1, dL_points_14, rfl, dL_points_15⟩) rfl ⟨1, 0, S, hA, rfl, hI1, fun h => absurd h (by decide)⟩
set_option maxRecDepth 100000 in
set_option maxHeartbeats 4000000 in
theorem c_L_lay {X : jX} (hs : X.1.stackTraces = false) {d : Nat} (hd : 42 ≤ d) {o : Nat} {S S' : StX} {w : List jC} (hI : LI o S S' w) (p0 : Int32) (p1 : Int32) {kc ks : Nat} (hkc : 2 ≤ kc) (hks : 12 ≤ ks) : jMet X mL_lay d kc ks [.ref 0, .int p0, .int p1, .ref o] w (pJ (fun v w' => ∃ (k : Nat) (x : Int32) (S2 : StX), AG (isN p0 6) (isN p1 (fc S.1)) (Dlay S p0 p1) S k x S2 ∧ v = nI k ∧ LI o S2 S' w' ∧ (k = 0 → ∃ s, w'[o]? = some (.inr (8, [.long x.toInt64, s]))))) := by
  refine jMet_of hs (by decide +kernel) (Nat.le_of_ble_eq_true rfl) (L := [some (.ref 0), some (.int p0), some (.int p1), some (.ref o), none]) rfl ?_
  obtain ⟨f0, h0⟩ := hI.c0
  refine J_aload_n (pc := 0) dL_lay_0 rfl rfl rfl ?_
  refine J_aload_n (pc := 1) dL_lay_1 rfl rfl rfl ?_
  refine J_iload_n (pc := 2) dL_lay_2 rfl rfl ?_
  refine J_iload_n (pc := 3) dL_lay_3 rfl rfl ?_
  refine J_callV (pc := 4) (M := mL_lay) (as := [.int p0, .int p1]) dL_lay_4 fw_X6_lay fl_L_21 fm_X6_lay fe_X6_lay h0 (by decide) rfl rfl rfl (uu_lay hs (d := d - 1) (by omega) hI p0 p1 (kc := 2) (ks := 12) (Nat.le_refl _) (Nat.le_refl _)) (by omega) hkc hks (st := [.ref o]) (Nat.le_of_ble_eq_true rfl) rfl (kr_X (kr_J fun v w1 hI1 => ?_)) (kx_X fun E w1 hx => ?_)
  · obtain ⟨S2, hA, hI1⟩ := hI1
    refine J_i2l (pc := 7) dL_lay_7 ?_
    obtain ⟨_, fs, h24, hl24⟩ := hI1.lo
    obtain ⟨f1, f2, rfl⟩ := two hl24
    refine J_putN (pc := 8) (k := 0) dL_lay_8 kC8 (by decide) ff_L_13 rfl rfl h24 (by decide : (0 : Nat) < 2) (fun w2 hln2 hw2 hne2 => ?_)
    refine J_goto (pc := 11) (tgt := 22) dL_lay_11 (by decide) ?_
    refine J_iconst (pc := 22) (v := nI 0) dL_lay_22 (by decide) ?_
    exact J_iret (pc := 23) dL_lay_23 rfl ⟨0, v, S2, hA, rfl, hI1.out hl24 hw2 hne2, fun _ => ⟨f2, hw2⟩⟩
  · obtain ⟨hE, hI1⟩ := hx
    rcases hE with ⟨rfl, hA⟩ | ⟨rfl, hA⟩
    · exact JX_catch1 rfl (by decide) (by decide) fc_L_25 fcast_IndexOutOfBoundsException (Or.inr ⟨4, dL_lay_14, by decide, 1, dL_lay_16, rfl, dL_lay_17⟩) rfl ⟨1, 0, S, hA, rfl, hI1, fun h => absurd h (by decide)⟩
    · exact JX_catch2 rfl (by decide) fc_L_25 (List.mem_singleton.mpr rfl) (by decide) (by decide) fc_L_19 fcast_IllegalArgumentException (Or.inr ⟨4, dL_lay_18, by decide, 2, dL_lay_20, rfl, dL_lay_21⟩) rfl ⟨2, 0, S, hA, rfl, hI1, fun h => absurd h (by decide)⟩
set_option maxRecDepth 100000 in
set_option maxHeartbeats 4000000 in
theorem c_L_exchange {X : jX} (hs : X.1.stackTraces = false) {d : Nat} (hd : 42 ≤ d) {o : Nat} {S S' : StX} {w : List jC} (hI : LI o S S' w) (p0 : Int32) (p1 : Int32) (p2 : Int32) {kc ks : Nat} (hkc : 3 ≤ kc) (hks : 18 ≤ ks) : jMet X mL_exchange d kc ks [.ref 0, .int p0, .int p1, .int p2, .ref o] w (pJ (fun v w' => ∃ (k : Nat) (x : Int32) (S2 : StX), AG (isN p0 6 ∧ isN p1 S.1 ∧ isN p2 S.1) (True) (Dexchange S p0 p1 p2) S k x S2 ∧ v = nI k ∧ LI o S2 S' w' ∧ (k = 0 → ∃ s, w'[o]? = some (.inr (8, [.long x.toInt64, s]))))) := by
  refine jMet_of hs (by decide +kernel) (Nat.le_of_ble_eq_true rfl) (L := [some (.ref 0), some (.int p0), some (.int p1), some (.int p2), some (.ref o), none]) rfl ?_
  obtain ⟨f0, h0⟩ := hI.c0
  refine J_aload (pc := 0) dL_exchange_0 rfl rfl ?_
  refine J_aload_n (pc := 2) dL_exchange_2 rfl rfl rfl ?_
  refine J_iload_n (pc := 3) dL_exchange_3 rfl rfl ?_
  refine J_iload_n (pc := 4) dL_exchange_4 rfl rfl ?_
  refine J_iload_n (pc := 5) dL_exchange_5 rfl rfl ?_
  refine J_callV (pc := 6) (M := mL_exchange) (as := [.int p0, .int p1, .int p2]) dL_exchange_6 fw_X6_exchange fl_L_27 fm_X6_exchange fe_X6_exchange h0 (by decide) rfl rfl rfl (uu_exchange hs (d := d - 1) (by omega) hI p0 p1 p2 (kc := 3) (ks := 18) (Nat.le_refl _) (Nat.le_refl _)) (by omega) hkc hks (st := [.ref o]) (Nat.le_of_ble_eq_true rfl) rfl (kr_X (kr_J fun v w1 hI1 => ?_)) (kx_X fun E w1 hx => ?_)
  · obtain ⟨S2, hA, hI1⟩ := hI1
    refine J_i2l (pc := 9) dL_exchange_9 ?_
    obtain ⟨_, fs, h24, hl24⟩ := hI1.lo
    obtain ⟨f1, f2, rfl⟩ := two hl24
    refine J_putN (pc := 10) (k := 0) dL_exchange_10 kC8 (by decide) ff_L_13 rfl rfl h24 (by decide : (0 : Nat) < 2) (fun w2 hln2 hw2 hne2 => ?_)
    refine J_goto (pc := 13) (tgt := 20) dL_exchange_13 (by decide) ?_
    refine J_iconst (pc := 20) (v := nI 0) dL_exchange_20 (by decide) ?_
    exact J_iret (pc := 21) dL_exchange_21 rfl ⟨0, v, S2, hA, rfl, hI1.out hl24 hw2 hne2, fun _ => ⟨f2, hw2⟩⟩
  · obtain ⟨hE, hI1⟩ := hx
    obtain ⟨hE, hA⟩ := hE
    subst hE
    exact JX_catch1 rfl (by decide) (by decide) fc_L_25 fcast_IndexOutOfBoundsException (Or.inr ⟨5, dL_exchange_16, by decide, 1, dL_exchange_18, rfl, dL_exchange_19⟩) rfl ⟨1, 0, S, hA, rfl, hI1, fun h => absurd h (by decide)⟩
set_option maxRecDepth 100000 in
set_option maxHeartbeats 4000000 in
theorem c_L_ring {X : jX} (hs : X.1.stackTraces = false) {d : Nat} (hd : 42 ≤ d) {o : Nat} {S S' : StX} {w : List jC} (hI : LI o S S' w) (p0 : Int32) (p1 : Int32) (p2 : Int32) (p3 : Int32) {kc ks : Nat} (hkc : 5 ≤ kc) (hks : 30 ≤ ks) : jMet X mL_ring d kc ks [.ref 0, .int p0, .int p1, .int p2, .int p3, .ref o] w (pJ (fun v w' => ∃ (k : Nat) (x : Int32) (S2 : StX), AG (isN p0 6 ∧ isN p1 S.1 ∧ isN p2 S.1 ∧ isN p3 S.1) (p1 ≠ p2 ∧ p2 ≠ p3 ∧ p3 ≠ p1) (Dring S p0 p1 p2 p3) S k x S2 ∧ v = nI k ∧ LI o S2 S' w' ∧ (k = 0 → ∃ s, w'[o]? = some (.inr (8, [.long x.toInt64, s]))))) := by
  refine jMet_of hs (by decide +kernel) (Nat.le_of_ble_eq_true rfl) (L := [some (.ref 0), some (.int p0), some (.int p1), some (.int p2), some (.int p3), some (.ref o), none]) rfl ?_
  obtain ⟨f0, h0⟩ := hI.c0
  refine J_aload (pc := 0) dL_ring_0 rfl rfl ?_
  refine J_aload_n (pc := 2) dL_ring_2 rfl rfl rfl ?_
  refine J_iload_n (pc := 3) dL_ring_3 rfl rfl ?_
  refine J_iload_n (pc := 4) dL_ring_4 rfl rfl ?_
  refine J_iload_n (pc := 5) dL_ring_5 rfl rfl ?_
  refine J_iload (pc := 6) dL_ring_6 rfl ?_
  refine J_callV (pc := 8) (M := mL_ring) (as := [.int p0, .int p1, .int p2, .int p3]) dL_ring_8 fw_X6_ring fl_L_31 fm_X6_ring fe_X6_ring h0 (by decide) rfl rfl rfl (uu_ring hs (d := d - 1) (by omega) hI p0 p1 p2 p3 (kc := 5) (ks := 30) (Nat.le_refl _) (Nat.le_refl _)) (by omega) hkc hks (st := [.ref o]) (Nat.le_of_ble_eq_true rfl) rfl (kr_X (kr_J fun v w1 hI1 => ?_)) (kx_X fun E w1 hx => ?_)
  · obtain ⟨S2, hA, hI1⟩ := hI1
    refine J_i2l (pc := 11) dL_ring_11 ?_
    obtain ⟨_, fs, h24, hl24⟩ := hI1.lo
    obtain ⟨f1, f2, rfl⟩ := two hl24
    refine J_putN (pc := 12) (k := 0) dL_ring_12 kC8 (by decide) ff_L_13 rfl rfl h24 (by decide : (0 : Nat) < 2) (fun w2 hln2 hw2 hne2 => ?_)
    refine J_goto (pc := 15) (tgt := 26) dL_ring_15 (by decide) ?_
    refine J_iconst (pc := 26) (v := nI 0) dL_ring_26 (by decide) ?_
    exact J_iret (pc := 27) dL_ring_27 rfl ⟨0, v, S2, hA, rfl, hI1.out hl24 hw2 hne2, fun _ => ⟨f2, hw2⟩⟩
  · obtain ⟨hE, hI1⟩ := hx
    rcases hE with ⟨rfl, hA⟩ | ⟨rfl, hA⟩
    · exact JX_catch1 rfl (by decide) (by decide) fc_L_25 fcast_IndexOutOfBoundsException (Or.inr ⟨6, dL_ring_18, by decide, 1, dL_ring_20, rfl, dL_ring_21⟩) rfl ⟨1, 0, S, hA, rfl, hI1, fun h => absurd h (by decide)⟩
    · exact JX_catch2 rfl (by decide) fc_L_25 (List.mem_singleton.mpr rfl) (by decide) (by decide) fc_L_19 fcast_IllegalArgumentException (Or.inr ⟨6, dL_ring_22, by decide, 2, dL_ring_24, rfl, dL_ring_25⟩) rfl ⟨2, 0, S, hA, rfl, hI1, fun h => absurd h (by decide)⟩
set_option maxRecDepth 100000 in
set_option maxHeartbeats 4000000 in
theorem c_L_turn {X : jX} (hs : X.1.stackTraces = false) {d : Nat} (hd : 42 ≤ d) {o : Nat} {S S' : StX} {w : List jC} (hI : LI o S S' w) (p0 : Int32) (p1 : Int32) {kc ks : Nat} (hkc : 2 ≤ kc) (hks : 12 ≤ ks) : jMet X mL_turn d kc ks [.ref 0, .int p0, .int p1, .ref o] w (pJ (fun v w' => ∃ (k : Nat) (x : Int32) (S2 : StX), AG (isN p0 6) ((-100) ≤ p1 ∧ p1 ≤ nI 100) (Dturn S p0 p1) S k x S2 ∧ v = nI k ∧ LI o S2 S' w' ∧ (k = 0 → ∃ s, w'[o]? = some (.inr (8, [.long x.toInt64, s]))))) := by
  refine jMet_of hs (by decide +kernel) (Nat.le_of_ble_eq_true rfl) (L := [some (.ref 0), some (.int p0), some (.int p1), some (.ref o), none]) rfl ?_
  obtain ⟨f0, h0⟩ := hI.c0
  refine J_aload_n (pc := 0) dL_turn_0 rfl rfl rfl ?_
  refine J_aload_n (pc := 1) dL_turn_1 rfl rfl rfl ?_
  refine J_iload_n (pc := 2) dL_turn_2 rfl rfl ?_
  refine J_iload_n (pc := 3) dL_turn_3 rfl rfl ?_
  refine J_callV (pc := 4) (M := mL_turn) (as := [.int p0, .int p1]) dL_turn_4 fw_X6_turn fl_L_35 fm_X6_turn fe_X6_turn h0 (by decide) rfl rfl rfl (uu_turn hs (d := d - 1) (by omega) hI p0 p1 (kc := 2) (ks := 12) (Nat.le_refl _) (Nat.le_refl _)) (by omega) hkc hks (st := [.ref o]) (Nat.le_of_ble_eq_true rfl) rfl (kr_X (kr_J fun v w1 hI1 => ?_)) (kx_X fun E w1 hx => ?_)
  · obtain ⟨S2, hA, hI1⟩ := hI1
    refine J_i2l (pc := 7) dL_turn_7 ?_
    obtain ⟨_, fs, h24, hl24⟩ := hI1.lo
    obtain ⟨f1, f2, rfl⟩ := two hl24
    refine J_putN (pc := 8) (k := 0) dL_turn_8 kC8 (by decide) ff_L_13 rfl rfl h24 (by decide : (0 : Nat) < 2) (fun w2 hln2 hw2 hne2 => ?_)
    refine J_goto (pc := 11) (tgt := 22) dL_turn_11 (by decide) ?_
    refine J_iconst (pc := 22) (v := nI 0) dL_turn_22 (by decide) ?_
    exact J_iret (pc := 23) dL_turn_23 rfl ⟨0, v, S2, hA, rfl, hI1.out hl24 hw2 hne2, fun _ => ⟨f2, hw2⟩⟩
  · obtain ⟨hE, hI1⟩ := hx
    rcases hE with ⟨rfl, hA⟩ | ⟨rfl, hA⟩
    · exact JX_catch1 rfl (by decide) (by decide) fc_L_25 fcast_IndexOutOfBoundsException (Or.inr ⟨4, dL_turn_14, by decide, 1, dL_turn_16, rfl, dL_turn_17⟩) rfl ⟨1, 0, S, hA, rfl, hI1, fun h => absurd h (by decide)⟩
    · exact JX_catch2 rfl (by decide) fc_L_25 (List.mem_singleton.mpr rfl) (by decide) (by decide) fc_L_19 fcast_IllegalArgumentException (Or.inr ⟨4, dL_turn_18, by decide, 2, dL_turn_20, rfl, dL_turn_21⟩) rfl ⟨2, 0, S, hA, rfl, hI1, fun h => absurd h (by decide)⟩
set_option maxRecDepth 100000 in
set_option maxHeartbeats 4000000 in
theorem c_L_mirror {X : jX} (hs : X.1.stackTraces = false) {d : Nat} (hd : 42 ≤ d) {o : Nat} {S S' : StX} {w : List jC} (hI : LI o S S' w) (p0 : Int32) {kc ks : Nat} (hkc : 1 ≤ kc) (hks : 6 ≤ ks) : jMet X mL_mirror d kc ks [.ref 0, .int p0, .ref o] w (pJ (fun v w' => ∃ (k : Nat) (x : Int32) (S2 : StX), AG (isN p0 6) (True) (Dmirror S p0) S k x S2 ∧ v = nI k ∧ LI o S2 S' w' ∧ (k = 0 → ∃ s, w'[o]? = some (.inr (8, [.long x.toInt64, s]))))) := by
  refine jMet_of hs (by decide +kernel) (Nat.le_of_ble_eq_true rfl) (L := [some (.ref 0), some (.int p0), some (.ref o), none]) rfl ?_
  obtain ⟨f0, h0⟩ := hI.c0
  refine J_aload_n (pc := 0) dL_mirror_0 rfl rfl rfl ?_
  refine J_aload_n (pc := 1) dL_mirror_1 rfl rfl rfl ?_
  refine J_iload_n (pc := 2) dL_mirror_2 rfl rfl ?_
  refine J_callV (pc := 3) (M := mL_mirror) (as := [.int p0]) dL_mirror_3 fw_X6_mirror fl_L_38 fm_X6_mirror fe_X6_mirror h0 (by decide) rfl rfl rfl (uu_mirror hs (d := d - 1) (by omega) hI p0 (kc := 1) (ks := 6) (Nat.le_refl _) (Nat.le_refl _)) (by omega) hkc hks (st := [.ref o]) (Nat.le_of_ble_eq_true rfl) rfl (kr_X (kr_J fun v w1 hI1 => ?_)) (kx_X fun E w1 hx => ?_)
  · obtain ⟨S2, hA, hI1⟩ := hI1
    refine J_i2l (pc := 6) dL_mirror_6 ?_
    obtain ⟨_, fs, h24, hl24⟩ := hI1.lo
    obtain ⟨f1, f2, rfl⟩ := two hl24
    refine J_putN (pc := 7) (k := 0) dL_mirror_7 kC8 (by decide) ff_L_13 rfl rfl h24 (by decide : (0 : Nat) < 2) (fun w2 hln2 hw2 hne2 => ?_)
    refine J_goto (pc := 10) (tgt := 16) dL_mirror_10 (by decide) ?_
    refine J_iconst (pc := 16) (v := nI 0) dL_mirror_16 (by decide) ?_
    exact J_iret (pc := 17) dL_mirror_17 rfl ⟨0, v, S2, hA, rfl, hI1.out hl24 hw2 hne2, fun _ => ⟨f2, hw2⟩⟩
  · obtain ⟨hE, hI1⟩ := hx
    obtain ⟨hE, hA⟩ := hE
    subst hE
    exact JX_catch1 rfl (by decide) (by decide) fc_L_25 fcast_IndexOutOfBoundsException (Or.inl ⟨3, dL_mirror_13, by decide, 1, dL_mirror_14, rfl, dL_mirror_15⟩) rfl ⟨1, 0, S, hA, rfl, hI1, fun h => absurd h (by decide)⟩
set_option maxRecDepth 100000 in
set_option maxHeartbeats 4000000 in
theorem c_L_copy {X : jX} (hs : X.1.stackTraces = false) {d : Nat} (hd : 42 ≤ d) {o : Nat} {S S' : StX} {w : List jC} (hI : LI o S S' w) (p0 : Int32) (p1 : Int32) {kc ks : Nat} (hkc : 2 ≤ kc) (hks : 12 ≤ ks) : jMet X mL_copy d kc ks [.ref 0, .int p0, .int p1, .ref o] w (pJ (fun v w' => ∃ (k : Nat) (x : Int32) (S2 : StX), AG (isN p0 6 ∧ isN p1 6) (True) (Dcopy S p0 p1) S k x S2 ∧ v = nI k ∧ LI o S2 S' w' ∧ (k = 0 → ∃ s, w'[o]? = some (.inr (8, [.long x.toInt64, s]))))) := by
  refine jMet_of hs (by decide +kernel) (Nat.le_of_ble_eq_true rfl) (L := [some (.ref 0), some (.int p0), some (.int p1), some (.ref o), none]) rfl ?_
  obtain ⟨f0, h0⟩ := hI.c0
  refine J_aload_n (pc := 0) dL_copy_0 rfl rfl rfl ?_
  refine J_aload_n (pc := 1) dL_copy_1 rfl rfl rfl ?_
  refine J_iload_n (pc := 2) dL_copy_2 rfl rfl ?_
  refine J_iload_n (pc := 3) dL_copy_3 rfl rfl ?_
  refine J_callV (pc := 4) (M := mL_copy) (as := [.int p0, .int p1]) dL_copy_4 fw_X6_copy fl_L_41 fm_X6_copy fe_X6_copy h0 (by decide) rfl rfl rfl (uu_copy hs (d := d - 1) (by omega) hI p0 p1 (kc := 2) (ks := 12) (Nat.le_refl _) (Nat.le_refl _)) (by omega) hkc hks (st := [.ref o]) (Nat.le_of_ble_eq_true rfl) rfl (kr_X (kr_J fun v w1 hI1 => ?_)) (kx_X fun E w1 hx => ?_)
  · obtain ⟨S2, hA, hI1⟩ := hI1
    refine J_i2l (pc := 7) dL_copy_7 ?_
    obtain ⟨_, fs, h24, hl24⟩ := hI1.lo
    obtain ⟨f1, f2, rfl⟩ := two hl24
    refine J_putN (pc := 8) (k := 0) dL_copy_8 kC8 (by decide) ff_L_13 rfl rfl h24 (by decide : (0 : Nat) < 2) (fun w2 hln2 hw2 hne2 => ?_)
    refine J_goto (pc := 11) (tgt := 18) dL_copy_11 (by decide) ?_
    refine J_iconst (pc := 18) (v := nI 0) dL_copy_18 (by decide) ?_
    exact J_iret (pc := 19) dL_copy_19 rfl ⟨0, v, S2, hA, rfl, hI1.out hl24 hw2 hne2, fun _ => ⟨f2, hw2⟩⟩
  · obtain ⟨hE, hI1⟩ := hx
    obtain ⟨hE, hA⟩ := hE
    subst hE
    exact JX_catch1 rfl (by decide) (by decide) fc_L_25 fcast_IndexOutOfBoundsException (Or.inr ⟨4, dL_copy_14, by decide, 1, dL_copy_16, rfl, dL_copy_17⟩) rfl ⟨1, 0, S, hA, rfl, hI1, fun h => absurd h (by decide)⟩
set_option maxRecDepth 100000 in
set_option maxHeartbeats 4000000 in
theorem c_L_swap {X : jX} (hs : X.1.stackTraces = false) {d : Nat} (hd : 42 ≤ d) {o : Nat} {S S' : StX} {w : List jC} (hI : LI o S S' w) (p0 : Int32) (p1 : Int32) {kc ks : Nat} (hkc : 2 ≤ kc) (hks : 12 ≤ ks) : jMet X mL_swap d kc ks [.ref 0, .int p0, .int p1, .ref o] w (pJ (fun v w' => ∃ (k : Nat) (x : Int32) (S2 : StX), AG (isN p0 6 ∧ isN p1 6) (True) (Dswap S p0 p1) S k x S2 ∧ v = nI k ∧ LI o S2 S' w' ∧ (k = 0 → ∃ s, w'[o]? = some (.inr (8, [.long x.toInt64, s]))))) := by
  refine jMet_of hs (by decide +kernel) (Nat.le_of_ble_eq_true rfl) (L := [some (.ref 0), some (.int p0), some (.int p1), some (.ref o), none]) rfl ?_
  obtain ⟨f0, h0⟩ := hI.c0
  refine J_aload_n (pc := 0) dL_swap_0 rfl rfl rfl ?_
  refine J_aload_n (pc := 1) dL_swap_1 rfl rfl rfl ?_
  refine J_iload_n (pc := 2) dL_swap_2 rfl rfl ?_
  refine J_iload_n (pc := 3) dL_swap_3 rfl rfl ?_
  refine J_callV (pc := 4) (M := mL_swap) (as := [.int p0, .int p1]) dL_swap_4 fw_X6_swap fl_L_44 fm_X6_swap fe_X6_swap h0 (by decide) rfl rfl rfl (uu_swap hs (d := d - 1) (by omega) hI p0 p1 (kc := 2) (ks := 12) (Nat.le_refl _) (Nat.le_refl _)) (by omega) hkc hks (st := [.ref o]) (Nat.le_of_ble_eq_true rfl) rfl (kr_X (kr_J fun v w1 hI1 => ?_)) (kx_X fun E w1 hx => ?_)
  · obtain ⟨S2, hA, hI1⟩ := hI1
    refine J_i2l (pc := 7) dL_swap_7 ?_
    obtain ⟨_, fs, h24, hl24⟩ := hI1.lo
    obtain ⟨f1, f2, rfl⟩ := two hl24
    refine J_putN (pc := 8) (k := 0) dL_swap_8 kC8 (by decide) ff_L_13 rfl rfl h24 (by decide : (0 : Nat) < 2) (fun w2 hln2 hw2 hne2 => ?_)
    refine J_goto (pc := 11) (tgt := 18) dL_swap_11 (by decide) ?_
    refine J_iconst (pc := 18) (v := nI 0) dL_swap_18 (by decide) ?_
    exact J_iret (pc := 19) dL_swap_19 rfl ⟨0, v, S2, hA, rfl, hI1.out hl24 hw2 hne2, fun _ => ⟨f2, hw2⟩⟩
  · obtain ⟨hE, hI1⟩ := hx
    obtain ⟨hE, hA⟩ := hE
    subst hE
    exact JX_catch1 rfl (by decide) (by decide) fc_L_25 fcast_IndexOutOfBoundsException (Or.inr ⟨4, dL_swap_14, by decide, 1, dL_swap_16, rfl, dL_swap_17⟩) rfl ⟨1, 0, S, hA, rfl, hI1, fun h => absurd h (by decide)⟩
set_option maxRecDepth 100000 in
set_option maxHeartbeats 4000000 in
theorem c_L_then {X : jX} (hs : X.1.stackTraces = false) {d : Nat} (hd : 42 ≤ d) {o : Nat} {S S' : StX} {w : List jC} (hI : LI o S S' w) (p0 : Int32) (p1 : Int32) (p2 : Int32) {kc ks : Nat} (hkc : 3 ≤ kc) (hks : 18 ≤ ks) : jMet X mL_then d kc ks [.ref 0, .int p0, .int p1, .int p2, .ref o] w (pJ (fun v w' => ∃ (k : Nat) (x : Int32) (S2 : StX), AG (isN p0 6 ∧ isN p1 6 ∧ isN p2 6) (True) (Dthen S p0 p1 p2) S k x S2 ∧ v = nI k ∧ LI o S2 S' w' ∧ (k = 0 → ∃ s, w'[o]? = some (.inr (8, [.long x.toInt64, s]))))) := by
  refine jMet_of hs (by decide +kernel) (Nat.le_of_ble_eq_true rfl) (L := [some (.ref 0), some (.int p0), some (.int p1), some (.int p2), some (.ref o), none]) rfl ?_
  obtain ⟨f0, h0⟩ := hI.c0
  refine J_aload (pc := 0) dL_then_0 rfl rfl ?_
  refine J_aload_n (pc := 2) dL_then_2 rfl rfl rfl ?_
  refine J_iload_n (pc := 3) dL_then_3 rfl rfl ?_
  refine J_iload_n (pc := 4) dL_then_4 rfl rfl ?_
  refine J_iload_n (pc := 5) dL_then_5 rfl rfl ?_
  refine J_callV (pc := 6) (M := mL_then) (as := [.int p0, .int p1, .int p2]) dL_then_6 fw_X6_then fl_L_47 fm_X6_then fe_X6_then h0 (by decide) rfl rfl rfl (uu_then hs (d := d - 1) (by omega) hI p0 p1 p2 (kc := 3) (ks := 18) (Nat.le_refl _) (Nat.le_refl _)) (by omega) hkc hks (st := [.ref o]) (Nat.le_of_ble_eq_true rfl) rfl (kr_X (kr_J fun v w1 hI1 => ?_)) (kx_X fun E w1 hx => ?_)
  · obtain ⟨S2, hA, hI1⟩ := hI1
    refine J_i2l (pc := 9) dL_then_9 ?_
    obtain ⟨_, fs, h24, hl24⟩ := hI1.lo
    obtain ⟨f1, f2, rfl⟩ := two hl24
    refine J_putN (pc := 10) (k := 0) dL_then_10 kC8 (by decide) ff_L_13 rfl rfl h24 (by decide : (0 : Nat) < 2) (fun w2 hln2 hw2 hne2 => ?_)
    refine J_goto (pc := 13) (tgt := 20) dL_then_13 (by decide) ?_
    refine J_iconst (pc := 20) (v := nI 0) dL_then_20 (by decide) ?_
    exact J_iret (pc := 21) dL_then_21 rfl ⟨0, v, S2, hA, rfl, hI1.out hl24 hw2 hne2, fun _ => ⟨f2, hw2⟩⟩
  · obtain ⟨hE, hI1⟩ := hx
    obtain ⟨hE, hA⟩ := hE
    subst hE
    exact JX_catch1 rfl (by decide) (by decide) fc_L_25 fcast_IndexOutOfBoundsException (Or.inr ⟨5, dL_then_16, by decide, 1, dL_then_18, rfl, dL_then_19⟩) rfl ⟨1, 0, S, hA, rfl, hI1, fun h => absurd h (by decide)⟩
set_option maxRecDepth 100000 in
set_option maxHeartbeats 4000000 in
theorem c_L_undo {X : jX} (hs : X.1.stackTraces = false) {d : Nat} (hd : 42 ≤ d) {o : Nat} {S S' : StX} {w : List jC} (hI : LI o S S' w) (p0 : Int32) (p1 : Int32) {kc ks : Nat} (hkc : 2 ≤ kc) (hks : 12 ≤ ks) : jMet X mL_undo d kc ks [.ref 0, .int p0, .int p1, .ref o] w (pJ (fun v w' => ∃ (k : Nat) (x : Int32) (S2 : StX), AG (isN p0 6 ∧ isN p1 6) (True) (Dundo S p0 p1) S k x S2 ∧ v = nI k ∧ LI o S2 S' w' ∧ (k = 0 → ∃ s, w'[o]? = some (.inr (8, [.long x.toInt64, s]))))) := by
  refine jMet_of hs (by decide +kernel) (Nat.le_of_ble_eq_true rfl) (L := [some (.ref 0), some (.int p0), some (.int p1), some (.ref o), none]) rfl ?_
  obtain ⟨f0, h0⟩ := hI.c0
  refine J_aload_n (pc := 0) dL_undo_0 rfl rfl rfl ?_
  refine J_aload_n (pc := 1) dL_undo_1 rfl rfl rfl ?_
  refine J_iload_n (pc := 2) dL_undo_2 rfl rfl ?_
  refine J_iload_n (pc := 3) dL_undo_3 rfl rfl ?_
  refine J_callV (pc := 4) (M := mL_undo) (as := [.int p0, .int p1]) dL_undo_4 fw_X6_undo fl_L_50 fm_X6_undo fe_X6_undo h0 (by decide) rfl rfl rfl (uu_undo hs (d := d - 1) (by omega) hI p0 p1 (kc := 2) (ks := 12) (Nat.le_refl _) (Nat.le_refl _)) (by omega) hkc hks (st := [.ref o]) (Nat.le_of_ble_eq_true rfl) rfl (kr_X (kr_J fun v w1 hI1 => ?_)) (kx_X fun E w1 hx => ?_)
  · obtain ⟨S2, hA, hI1⟩ := hI1
    refine J_i2l (pc := 7) dL_undo_7 ?_
    obtain ⟨_, fs, h24, hl24⟩ := hI1.lo
    obtain ⟨f1, f2, rfl⟩ := two hl24
    refine J_putN (pc := 8) (k := 0) dL_undo_8 kC8 (by decide) ff_L_13 rfl rfl h24 (by decide : (0 : Nat) < 2) (fun w2 hln2 hw2 hne2 => ?_)
    refine J_goto (pc := 11) (tgt := 18) dL_undo_11 (by decide) ?_
    refine J_iconst (pc := 18) (v := nI 0) dL_undo_18 (by decide) ?_
    exact J_iret (pc := 19) dL_undo_19 rfl ⟨0, v, S2, hA, rfl, hI1.out hl24 hw2 hne2, fun _ => ⟨f2, hw2⟩⟩
  · obtain ⟨hE, hI1⟩ := hx
    obtain ⟨hE, hA⟩ := hE
    subst hE
    exact JX_catch1 rfl (by decide) (by decide) fc_L_25 fcast_IndexOutOfBoundsException (Or.inr ⟨4, dL_undo_14, by decide, 1, dL_undo_16, rfl, dL_undo_17⟩) rfl ⟨1, 0, S, hA, rfl, hI1, fun h => absurd h (by decide)⟩
set_option maxRecDepth 100000 in
set_option maxHeartbeats 4000000 in
theorem c_L_power {X : jX} (hs : X.1.stackTraces = false) {d : Nat} (hd : 42 ≤ d) {o : Nat} {S S' : StX} {w : List jC} (hI : LI o S S' w) (p0 : Int32) (p1 : Int32) (p2 : Int32) {kc ks : Nat} (hkc : 3 ≤ kc) (hks : 18 ≤ ks) : jMet X mL_power d kc ks [.ref 0, .int p0, .int p1, .int p2, .ref o] w (pJ (fun v w' => ∃ (k : Nat) (x : Int32) (S2 : StX), AG (isN p0 6 ∧ isN p2 6) ((-1000) ≤ p1 ∧ p1 ≤ nI 1000) (Dpower S p0 p1 p2) S k x S2 ∧ v = nI k ∧ LI o S2 S' w' ∧ (k = 0 → ∃ s, w'[o]? = some (.inr (8, [.long x.toInt64, s]))))) := by
  refine jMet_of hs (by decide +kernel) (Nat.le_of_ble_eq_true rfl) (L := [some (.ref 0), some (.int p0), some (.int p1), some (.int p2), some (.ref o), none]) rfl ?_
  obtain ⟨f0, h0⟩ := hI.c0
  refine J_aload (pc := 0) dL_power_0 rfl rfl ?_
  refine J_aload_n (pc := 2) dL_power_2 rfl rfl rfl ?_
  refine J_iload_n (pc := 3) dL_power_3 rfl rfl ?_
  refine J_iload_n (pc := 4) dL_power_4 rfl rfl ?_
  refine J_iload_n (pc := 5) dL_power_5 rfl rfl ?_
  refine J_callV (pc := 6) (M := mL_power) (as := [.int p0, .int p1, .int p2]) dL_power_6 fw_X6_power fl_L_53 fm_X6_power fe_X6_power h0 (by decide) rfl rfl rfl (uu_power hs (d := d - 1) (by omega) hI p0 p1 p2 (kc := 3) (ks := 18) (Nat.le_refl _) (Nat.le_refl _)) (by omega) hkc hks (st := [.ref o]) (Nat.le_of_ble_eq_true rfl) rfl (kr_X (kr_J fun v w1 hI1 => ?_)) (kx_X fun E w1 hx => ?_)
  · obtain ⟨S2, hA, hI1⟩ := hI1
    refine J_i2l (pc := 9) dL_power_9 ?_
    obtain ⟨_, fs, h24, hl24⟩ := hI1.lo
    obtain ⟨f1, f2, rfl⟩ := two hl24
    refine J_putN (pc := 10) (k := 0) dL_power_10 kC8 (by decide) ff_L_13 rfl rfl h24 (by decide : (0 : Nat) < 2) (fun w2 hln2 hw2 hne2 => ?_)
    refine J_goto (pc := 13) (tgt := 24) dL_power_13 (by decide) ?_
    refine J_iconst (pc := 24) (v := nI 0) dL_power_24 (by decide) ?_
    exact J_iret (pc := 25) dL_power_25 rfl ⟨0, v, S2, hA, rfl, hI1.out hl24 hw2 hne2, fun _ => ⟨f2, hw2⟩⟩
  · obtain ⟨hE, hI1⟩ := hx
    rcases hE with ⟨rfl, hA⟩ | ⟨rfl, hA⟩
    · exact JX_catch1 rfl (by decide) (by decide) fc_L_25 fcast_IndexOutOfBoundsException (Or.inr ⟨5, dL_power_16, by decide, 1, dL_power_18, rfl, dL_power_19⟩) rfl ⟨1, 0, S, hA, rfl, hI1, fun h => absurd h (by decide)⟩
    · exact JX_catch2 rfl (by decide) fc_L_25 (List.mem_singleton.mpr rfl) (by decide) (by decide) fc_L_19 fcast_IllegalArgumentException (Or.inr ⟨5, dL_power_20, by decide, 2, dL_power_22, rfl, dL_power_23⟩) rfl ⟨2, 0, S, hA, rfl, hI1, fun h => absurd h (by decide)⟩
set_option maxRecDepth 100000 in
set_option maxHeartbeats 4000000 in
theorem c_L_rename {X : jX} (hs : X.1.stackTraces = false) {d : Nat} (hd : 42 ≤ d) {o : Nat} {S S' : StX} {w : List jC} (hI : LI o S S' w) (p0 : Int32) (p1 : Int32) (p2 : Int32) {kc ks : Nat} (hkc : 3 ≤ kc) (hks : 18 ≤ ks) : jMet X mL_rename d kc ks [.ref 0, .int p0, .int p1, .int p2, .ref o] w (pJ (fun v w' => ∃ (k : Nat) (x : Int32) (S2 : StX), AG (isN p0 6 ∧ isN p1 6 ∧ isN p2 6) (True) (Drename S p0 p1 p2) S k x S2 ∧ v = nI k ∧ LI o S2 S' w' ∧ (k = 0 → ∃ s, w'[o]? = some (.inr (8, [.long x.toInt64, s]))))) := by
  refine jMet_of hs (by decide +kernel) (Nat.le_of_ble_eq_true rfl) (L := [some (.ref 0), some (.int p0), some (.int p1), some (.int p2), some (.ref o), none]) rfl ?_
  obtain ⟨f0, h0⟩ := hI.c0
  refine J_aload (pc := 0) dL_rename_0 rfl rfl ?_
  refine J_aload_n (pc := 2) dL_rename_2 rfl rfl rfl ?_
  refine J_iload_n (pc := 3) dL_rename_3 rfl rfl ?_
  refine J_iload_n (pc := 4) dL_rename_4 rfl rfl ?_
  refine J_iload_n (pc := 5) dL_rename_5 rfl rfl ?_
  refine J_callV (pc := 6) (M := mL_rename) (as := [.int p0, .int p1, .int p2]) dL_rename_6 fw_X6_rename fl_L_56 fm_X6_rename fe_X6_rename h0 (by decide) rfl rfl rfl (uu_rename hs (d := d - 1) (by omega) hI p0 p1 p2 (kc := 3) (ks := 18) (Nat.le_refl _) (Nat.le_refl _)) (by omega) hkc hks (st := [.ref o]) (Nat.le_of_ble_eq_true rfl) rfl (kr_X (kr_J fun v w1 hI1 => ?_)) (kx_X fun E w1 hx => ?_)
  · obtain ⟨S2, hA, hI1⟩ := hI1
    refine J_i2l (pc := 9) dL_rename_9 ?_
    obtain ⟨_, fs, h24, hl24⟩ := hI1.lo
    obtain ⟨f1, f2, rfl⟩ := two hl24
    refine J_putN (pc := 10) (k := 0) dL_rename_10 kC8 (by decide) ff_L_13 rfl rfl h24 (by decide : (0 : Nat) < 2) (fun w2 hln2 hw2 hne2 => ?_)
    refine J_goto (pc := 13) (tgt := 20) dL_rename_13 (by decide) ?_
    refine J_iconst (pc := 20) (v := nI 0) dL_rename_20 (by decide) ?_
    exact J_iret (pc := 21) dL_rename_21 rfl ⟨0, v, S2, hA, rfl, hI1.out hl24 hw2 hne2, fun _ => ⟨f2, hw2⟩⟩
  · obtain ⟨hE, hI1⟩ := hx
    obtain ⟨hE, hA⟩ := hE
    subst hE
    exact JX_catch1 rfl (by decide) (by decide) fc_L_25 fcast_IndexOutOfBoundsException (Or.inr ⟨5, dL_rename_16, by decide, 1, dL_rename_18, rfl, dL_rename_19⟩) rfl ⟨1, 0, S, hA, rfl, hI1, fun h => absurd h (by decide)⟩
set_option maxRecDepth 100000 in
set_option maxHeartbeats 4000000 in
theorem c_L_match {X : jX} (hs : X.1.stackTraces = false) {d : Nat} (hd : 42 ≤ d) {o : Nat} {S S' : StX} {w : List jC} (hI : LI o S S' w) (p0 : Int32) (p1 : Int32) (p2 : Int32) {kc ks : Nat} (hkc : 3 ≤ kc) (hks : 18 ≤ ks) : jMet X mL_match d kc ks [.ref 0, .int p0, .int p1, .int p2, .ref o] w (pJ (fun v w' => ∃ (k : Nat) (x : Int32) (S2 : StX), AG (isN p0 6 ∧ isN p1 6 ∧ isN p2 6) (True) (Dmatch S p0 p1 p2) S k x S2 ∧ v = nI k ∧ LI o S2 S' w' ∧ (k = 0 → ∃ s, w'[o]? = some (.inr (8, [.long x.toInt64, s]))))) := by
  refine jMet_of hs (by decide +kernel) (Nat.le_of_ble_eq_true rfl) (L := [some (.ref 0), some (.int p0), some (.int p1), some (.int p2), some (.ref o), none]) rfl ?_
  obtain ⟨f0, h0⟩ := hI.c0
  refine J_aload (pc := 0) dL_match_0 rfl rfl ?_
  refine J_aload_n (pc := 2) dL_match_2 rfl rfl rfl ?_
  refine J_iload_n (pc := 3) dL_match_3 rfl rfl ?_
  refine J_iload_n (pc := 4) dL_match_4 rfl rfl ?_
  refine J_iload_n (pc := 5) dL_match_5 rfl rfl ?_
  refine J_callV (pc := 6) (M := mL_match) (as := [.int p0, .int p1, .int p2]) dL_match_6 fw_X6_match fl_L_59 fm_X6_match fe_X6_match h0 (by decide) rfl rfl rfl (uu_match hs (d := d - 1) (by omega) hI p0 p1 p2 (kc := 3) (ks := 18) (Nat.le_refl _) (Nat.le_refl _)) (by omega) hkc hks (st := [.ref o]) (Nat.le_of_ble_eq_true rfl) rfl (kr_X (kr_J fun v w1 hI1 => ?_)) (kx_X fun E w1 hx => ?_)
  · obtain ⟨S2, hA, hI1⟩ := hI1
    refine J_i2l (pc := 9) dL_match_9 ?_
    obtain ⟨_, fs, h24, hl24⟩ := hI1.lo
    obtain ⟨f1, f2, rfl⟩ := two hl24
    refine J_putN (pc := 10) (k := 0) dL_match_10 kC8 (by decide) ff_L_13 rfl rfl h24 (by decide : (0 : Nat) < 2) (fun w2 hln2 hw2 hne2 => ?_)
    refine J_goto (pc := 13) (tgt := 20) dL_match_13 (by decide) ?_
    refine J_iconst (pc := 20) (v := nI 0) dL_match_20 (by decide) ?_
    exact J_iret (pc := 21) dL_match_21 rfl ⟨0, v, S2, hA, rfl, hI1.out hl24 hw2 hne2, fun _ => ⟨f2, hw2⟩⟩
  · obtain ⟨hE, hI1⟩ := hx
    obtain ⟨hE, hA⟩ := hE
    subst hE
    exact JX_catch1 rfl (by decide) (by decide) fc_L_25 fcast_IndexOutOfBoundsException (Or.inr ⟨5, dL_match_16, by decide, 1, dL_match_18, rfl, dL_match_19⟩) rfl ⟨1, 0, S, hA, rfl, hI1, fun h => absurd h (by decide)⟩
set_option maxRecDepth 100000 in
set_option maxHeartbeats 4000000 in
theorem c_L_nth {X : jX} (hs : X.1.stackTraces = false) {d : Nat} (hd : 42 ≤ d) {o : Nat} {S S' : StX} {w : List jC} (hI : LI o S S' w) (p0 : Int32) (p1 : Int32) (p2 : Int32) (p3 : Int32) {kc ks : Nat} (hkc : 4 ≤ kc) (hks : 24 ≤ ks) : jMet X mL_nth d kc ks [.ref 0, .int p0, .int p1, .int p2, .int p3, .ref o] w (pJ (fun v w' => ∃ (k : Nat) (x : Int32) (S2 : StX), AG (isN p1 6 ∧ isN p3 6) (isN p0 64 ∧ 0 ≤ p2) (Dnth S p0 p1 p2 p3) S k x S2 ∧ v = nI k ∧ LI o S2 S' w' ∧ (k = 0 → ∃ s, w'[o]? = some (.inr (8, [.long x.toInt64, s]))))) := by
  refine jMet_of hs (by decide +kernel) (Nat.le_of_ble_eq_true rfl) (L := [some (.ref 0), some (.int p0), some (.int p1), some (.int p2), some (.int p3), some (.ref o), none]) rfl ?_
  obtain ⟨f0, h0⟩ := hI.c0
  refine J_aload (pc := 0) dL_nth_0 rfl rfl ?_
  refine J_aload_n (pc := 2) dL_nth_2 rfl rfl rfl ?_
  refine J_iload_n (pc := 3) dL_nth_3 rfl rfl ?_
  refine J_iload_n (pc := 4) dL_nth_4 rfl rfl ?_
  refine J_iload_n (pc := 5) dL_nth_5 rfl rfl ?_
  refine J_iload (pc := 6) dL_nth_6 rfl ?_
  refine J_callV (pc := 8) (M := mL_nth) (as := [.int p0, .int p1, .int p2, .int p3]) dL_nth_8 fw_X6_nth fl_L_62 fm_X6_nth fe_X6_nth h0 (by decide) rfl rfl rfl (uu_nth hs (d := d - 1) (by omega) hI p0 p1 p2 p3 (kc := 4) (ks := 24) (Nat.le_refl _) (Nat.le_refl _)) (by omega) hkc hks (st := [.ref o]) (Nat.le_of_ble_eq_true rfl) rfl (kr_X (kr_J fun v w1 hI1 => ?_)) (kx_X fun E w1 hx => ?_)
  · obtain ⟨S2, hA, hI1⟩ := hI1
    refine J_i2l (pc := 11) dL_nth_11 ?_
    obtain ⟨_, fs, h24, hl24⟩ := hI1.lo
    obtain ⟨f1, f2, rfl⟩ := two hl24
    refine J_putN (pc := 12) (k := 0) dL_nth_12 kC8 (by decide) ff_L_13 rfl rfl h24 (by decide : (0 : Nat) < 2) (fun w2 hln2 hw2 hne2 => ?_)
    refine J_goto (pc := 15) (tgt := 26) dL_nth_15 (by decide) ?_
    refine J_iconst (pc := 26) (v := nI 0) dL_nth_26 (by decide) ?_
    exact J_iret (pc := 27) dL_nth_27 rfl ⟨0, v, S2, hA, rfl, hI1.out hl24 hw2 hne2, fun _ => ⟨f2, hw2⟩⟩
  · obtain ⟨hE, hI1⟩ := hx
    rcases hE with ⟨rfl, hA⟩ | ⟨rfl, hA⟩
    · exact JX_catch1 rfl (by decide) (by decide) fc_L_25 fcast_IndexOutOfBoundsException (Or.inr ⟨6, dL_nth_18, by decide, 1, dL_nth_20, rfl, dL_nth_21⟩) rfl ⟨1, 0, S, hA, rfl, hI1, fun h => absurd h (by decide)⟩
    · exact JX_catch2 rfl (by decide) fc_L_25 (List.mem_singleton.mpr rfl) (by decide) (by decide) fc_L_19 fcast_IllegalArgumentException (Or.inr ⟨6, dL_nth_22, by decide, 2, dL_nth_24, rfl, dL_nth_25⟩) rfl ⟨2, 0, S, hA, rfl, hI1, fun h => absurd h (by decide)⟩
set_option maxRecDepth 100000 in
set_option maxHeartbeats 4000000 in
theorem c_L_number {X : jX} (hs : X.1.stackTraces = false) {d : Nat} (hd : 42 ≤ d) {o : Nat} {S S' : StX} {w : List jC} (hI : LI o S S' w) (p0 : Int32) {kc ks : Nat} (hkc : 1 ≤ kc) (hks : 6 ≤ ks) : jMet X mL_number d kc ks [.ref 0, .int p0, .ref o] w (pJ (fun v w' => ∃ (k : Nat) (x : Int32) (S2 : StX), AG (isN p0 6) (True) (Dnumber S p0) S k x S2 ∧ v = nI k ∧ LI o S2 S' w' ∧ (k = 0 → ∃ s, w'[o]? = some (.inr (8, [.long x.toInt64, s]))))) := by
  refine jMet_of hs (by decide +kernel) (Nat.le_of_ble_eq_true rfl) (L := [some (.ref 0), some (.int p0), some (.ref o), none]) rfl ?_
  obtain ⟨f0, h0⟩ := hI.c0
  refine J_aload_n (pc := 0) dL_number_0 rfl rfl rfl ?_
  refine J_aload_n (pc := 1) dL_number_1 rfl rfl rfl ?_
  refine J_iload_n (pc := 2) dL_number_2 rfl rfl ?_
  refine J_callV (pc := 3) (M := mL_number) (as := [.int p0]) dL_number_3 fw_X6_number fl_L_65 fm_X6_number fe_X6_number h0 (by decide) rfl rfl rfl (uu_number hs (d := d - 1) (by omega) hI p0 (kc := 1) (ks := 6) (Nat.le_refl _) (Nat.le_refl _)) (by omega) hkc hks (st := [.ref o]) (Nat.le_of_ble_eq_true rfl) rfl (kr_X (kr_J fun v w1 hI1 => ?_)) (kx_X fun E w1 hx => ?_)
  · obtain ⟨S2, hA, hI1⟩ := hI1
    refine J_i2l (pc := 6) dL_number_6 ?_
    obtain ⟨_, fs, h24, hl24⟩ := hI1.lo
    obtain ⟨f1, f2, rfl⟩ := two hl24
    refine J_putN (pc := 7) (k := 0) dL_number_7 kC8 (by decide) ff_L_13 rfl rfl h24 (by decide : (0 : Nat) < 2) (fun w2 hln2 hw2 hne2 => ?_)
    refine J_goto (pc := 10) (tgt := 16) dL_number_10 (by decide) ?_
    refine J_iconst (pc := 16) (v := nI 0) dL_number_16 (by decide) ?_
    exact J_iret (pc := 17) dL_number_17 rfl ⟨0, v, S2, hA, rfl, hI1.out hl24 hw2 hne2, fun _ => ⟨f2, hw2⟩⟩
  · obtain ⟨hE, hI1⟩ := hx
    obtain ⟨hE, hA⟩ := hE
    subst hE
    exact JX_catch1 rfl (by decide) (by decide) fc_L_25 fcast_IndexOutOfBoundsException (Or.inl ⟨3, dL_number_13, by decide, 1, dL_number_14, rfl, dL_number_15⟩) rfl ⟨1, 0, S, hA, rfl, hI1, fun h => absurd h (by decide)⟩
set_option maxRecDepth 100000 in
set_option maxHeartbeats 4000000 in
theorem c_L_goes {X : jX} (hs : X.1.stackTraces = false) {d : Nat} (hd : 42 ≤ d) {o : Nat} {S S' : StX} {w : List jC} (hI : LI o S S' w) (p0 : Int32) (p1 : Int32) {kc ks : Nat} (hkc : 2 ≤ kc) (hks : 12 ≤ ks) : jMet X mL_goes d kc ks [.ref 0, .int p0, .int p1, .ref o] w (pJ (fun v w' => ∃ (k : Nat) (x : Int32) (S2 : StX), AG (isN p0 6 ∧ isN p1 S.1) (True) (Dgoes S p0 p1) S k x S2 ∧ v = nI k ∧ LI o S2 S' w' ∧ (k = 0 → ∃ s, w'[o]? = some (.inr (8, [.long x.toInt64, s]))))) := by
  refine jMet_of hs (by decide +kernel) (Nat.le_of_ble_eq_true rfl) (L := [some (.ref 0), some (.int p0), some (.int p1), some (.ref o), none]) rfl ?_
  obtain ⟨f0, h0⟩ := hI.c0
  refine J_aload_n (pc := 0) dL_goes_0 rfl rfl rfl ?_
  refine J_aload_n (pc := 1) dL_goes_1 rfl rfl rfl ?_
  refine J_iload_n (pc := 2) dL_goes_2 rfl rfl ?_
  refine J_iload_n (pc := 3) dL_goes_3 rfl rfl ?_
  refine J_callV (pc := 4) (M := mL_goes) (as := [.int p0, .int p1]) dL_goes_4 fw_X6_goes fl_L_68 fm_X6_goes fe_X6_goes h0 (by decide) rfl rfl rfl (uu_goes hs (d := d - 1) (by omega) hI p0 p1 (kc := 2) (ks := 12) (Nat.le_refl _) (Nat.le_refl _)) (by omega) hkc hks (st := [.ref o]) (Nat.le_of_ble_eq_true rfl) rfl (kr_X (kr_J fun v w1 hI1 => ?_)) (kx_X fun E w1 hx => ?_)
  · obtain ⟨S2, hA, hI1⟩ := hI1
    refine J_i2l (pc := 7) dL_goes_7 ?_
    obtain ⟨_, fs, h24, hl24⟩ := hI1.lo
    obtain ⟨f1, f2, rfl⟩ := two hl24
    refine J_putN (pc := 8) (k := 0) dL_goes_8 kC8 (by decide) ff_L_13 rfl rfl h24 (by decide : (0 : Nat) < 2) (fun w2 hln2 hw2 hne2 => ?_)
    refine J_goto (pc := 11) (tgt := 18) dL_goes_11 (by decide) ?_
    refine J_iconst (pc := 18) (v := nI 0) dL_goes_18 (by decide) ?_
    exact J_iret (pc := 19) dL_goes_19 rfl ⟨0, v, S2, hA, rfl, hI1.out hl24 hw2 hne2, fun _ => ⟨f2, hw2⟩⟩
  · obtain ⟨hE, hI1⟩ := hx
    obtain ⟨hE, hA⟩ := hE
    subst hE
    exact JX_catch1 rfl (by decide) (by decide) fc_L_25 fcast_IndexOutOfBoundsException (Or.inr ⟨4, dL_goes_14, by decide, 1, dL_goes_16, rfl, dL_goes_17⟩) rfl ⟨1, 0, S, hA, rfl, hI1, fun h => absurd h (by decide)⟩
set_option maxRecDepth 100000 in
set_option maxHeartbeats 4000000 in
theorem c_L_text {X : jX} (hs : X.1.stackTraces = false) {d : Nat} (hd : 42 ≤ d) (hXO : XO X) {o : Nat} {S S' : StX} {w : List jC} (hI : LI o S S' w) (p0 : Int32) {kc ks : Nat} (hkc : 40 ≤ kc) (hks : 1500 ≤ ks) : jMet X mL_text d kc ks [.ref 0, .int p0, .ref o] w (pI (fun _ => True) (LI o S S')) := by
  refine jMet_of hs (by decide +kernel) (Nat.le_of_ble_eq_true rfl) (L := [some (.ref 0), some (.int p0), some (.ref o), none]) rfl ?_
  obtain ⟨f0, h0⟩ := hI.c0
  refine J_aload_n (pc := 0) dL_text_0 rfl rfl rfl ?_
  refine J_aload_n (pc := 1) dL_text_1 rfl rfl rfl ?_
  refine J_iload_n (pc := 2) dL_text_2 rfl rfl ?_
  refine J_callV (pc := 3) (M := mL_text) (as := [.int p0]) dL_text_3 fw_X6_text fl_L_71 fm_X6_text fe_X6_text h0 (by decide) rfl rfl rfl (uu_text hs (d := d - 1) (by omega) hXO hI p0 (kc := 40) (ks := 1500) (Nat.le_refl _) (Nat.le_refl _)) (by omega) hkc hks (st := [.ref o]) (Nat.le_of_ble_eq_true rfl) rfl (kr_X (kr_A fun a w1 hI1 => ?_)) (kx_X fun E w1 hx => ?_)
  · obtain ⟨_, fs, h24, hl24⟩ := hI1.lo
    refine J_putN (pc := 6) (k := 1) dL_text_6 kC8 (by decide) ff_L_75 rfl rfl h24 (by omega) (fun w2 hln2 hw2 hne2 => ?_)
    refine J_goto (pc := 9) (tgt := 15) dL_text_9 (by decide) ?_
    refine J_iconst (pc := 15) (v := nI 0) dL_text_15 (by decide) ?_
    exact J_iret (pc := 16) dL_text_16 rfl ⟨trivial, hI1.out hl24 hw2 hne2⟩
  · obtain ⟨hE, hI1⟩ := hx
    subst hE
    exact JX_catch1 rfl (by decide) (by decide) fc_L_25 fcast_IndexOutOfBoundsException (Or.inl ⟨3, dL_text_12, by decide, 1, dL_text_13, rfl, dL_text_14⟩) rfl ⟨trivial, hI1⟩
set_option maxRecDepth 100000 in
set_option maxHeartbeats 4000000 in
theorem c_L_rings {X : jX} (hs : X.1.stackTraces = false) {d : Nat} (hd : 42 ≤ d) (hXO : XO X) {o : Nat} {S S' : StX} {w : List jC} (hI : LI o S S' w) (p0 : Int32) {kc ks : Nat} (hkc : 40 ≤ kc) (hks : 1500 ≤ ks) : jMet X mL_rings d kc ks [.ref 0, .int p0, .ref o] w (pI (fun _ => True) (LI o S S')) := by
  refine jMet_of hs (by decide +kernel) (Nat.le_of_ble_eq_true rfl) (L := [some (.ref 0), some (.int p0), some (.ref o), none]) rfl ?_
  obtain ⟨f0, h0⟩ := hI.c0
  refine J_aload_n (pc := 0) dL_rings_0 rfl rfl rfl ?_
  refine J_aload_n (pc := 1) dL_rings_1 rfl rfl rfl ?_
  refine J_iload_n (pc := 2) dL_rings_2 rfl rfl ?_
  refine J_callV (pc := 3) (M := mL_rings) (as := [.int p0]) dL_rings_3 fw_X6_rings fl_L_79 fm_X6_rings fe_X6_rings h0 (by decide) rfl rfl rfl (uu_rings hs (d := d - 1) (by omega) hXO hI p0 (kc := 40) (ks := 1500) (Nat.le_refl _) (Nat.le_refl _)) (by omega) hkc hks (st := [.ref o]) (Nat.le_of_ble_eq_true rfl) rfl (kr_X (kr_A fun a w1 hI1 => ?_)) (kx_X fun E w1 hx => ?_)
  · obtain ⟨_, fs, h24, hl24⟩ := hI1.lo
    refine J_putN (pc := 6) (k := 1) dL_rings_6 kC8 (by decide) ff_L_75 rfl rfl h24 (by omega) (fun w2 hln2 hw2 hne2 => ?_)
    refine J_goto (pc := 9) (tgt := 15) dL_rings_9 (by decide) ?_
    refine J_iconst (pc := 15) (v := nI 0) dL_rings_15 (by decide) ?_
    exact J_iret (pc := 16) dL_rings_16 rfl ⟨trivial, hI1.out hl24 hw2 hne2⟩
  · obtain ⟨hE, hI1⟩ := hx
    subst hE
    exact JX_catch1 rfl (by decide) (by decide) fc_L_25 fcast_IndexOutOfBoundsException (Or.inl ⟨3, dL_rings_12, by decide, 1, dL_rings_13, rfl, dL_rings_14⟩) rfl ⟨trivial, hI1⟩
set_option maxRecDepth 100000 in
set_option maxHeartbeats 4000000 in
theorem c_L_ringText {X : jX} (hs : X.1.stackTraces = false) {d : Nat} (hd : 42 ≤ d) (hXO : XO X) {o : Nat} {S S' : StX} {w : List jC} (hI : LI o S S' w) (p0 : Int32) (p1 : Int32) {kc ks : Nat} (hkc : 40 ≤ kc) (hks : 1500 ≤ ks) : jMet X mL_ringText d kc ks [.ref 0, .int p0, .int p1, .ref o] w (pI (fun _ => True) (LI o S S')) := by
  refine jMet_of hs (by decide +kernel) (Nat.le_of_ble_eq_true rfl) (L := [some (.ref 0), some (.int p0), some (.int p1), some (.ref o), none]) rfl ?_
  obtain ⟨f0, h0⟩ := hI.c0
  refine J_aload_n (pc := 0) dL_ringText_0 rfl rfl rfl ?_
  refine J_aload_n (pc := 1) dL_ringText_1 rfl rfl rfl ?_
  refine J_iload_n (pc := 2) dL_ringText_2 rfl rfl ?_
  refine J_iload_n (pc := 3) dL_ringText_3 rfl rfl ?_
  refine J_callV (pc := 4) (M := mL_ringText) (as := [.int p0, .int p1]) dL_ringText_4 fw_X6_ringText fl_L_82 fm_X6_ringText fe_X6_ringText h0 (by decide) rfl rfl rfl (uu_ringText hs (d := d - 1) (by omega) hXO hI p0 p1 (kc := 40) (ks := 1500) (Nat.le_refl _) (Nat.le_refl _)) (by omega) hkc hks (st := [.ref o]) (Nat.le_of_ble_eq_true rfl) rfl (kr_X (kr_A fun a w1 hI1 => ?_)) (kx_X fun E w1 hx => ?_)
  · obtain ⟨_, fs, h24, hl24⟩ := hI1.lo
    refine J_putN (pc := 7) (k := 1) dL_ringText_7 kC8 (by decide) ff_L_75 rfl rfl h24 (by omega) (fun w2 hln2 hw2 hne2 => ?_)
    refine J_goto (pc := 10) (tgt := 17) dL_ringText_10 (by decide) ?_
    refine J_iconst (pc := 17) (v := nI 0) dL_ringText_17 (by decide) ?_
    exact J_iret (pc := 18) dL_ringText_18 rfl ⟨trivial, hI1.out hl24 hw2 hne2⟩
  · obtain ⟨hE, hI1⟩ := hx
    subst hE
    exact JX_catch1 rfl (by decide) (by decide) fc_L_25 fcast_IndexOutOfBoundsException (Or.inr ⟨4, dL_ringText_13, by decide, 1, dL_ringText_15, rfl, dL_ringText_16⟩) rfl ⟨trivial, hI1⟩
set_option maxRecDepth 100000 in
set_option maxHeartbeats 4000000 in
theorem c_L_order {X : jX} (hs : X.1.stackTraces = false) {d : Nat} (hd : 42 ≤ d) {o : Nat} {S S' : StX} {w : List jC} (hI : LI o S S' w) (p0 : Int32) {kc ks : Nat} (hkc : 1 ≤ kc) (hks : 6 ≤ ks) : jMet X mL_order d kc ks [.ref 0, .int p0, .ref o] w (pJ (fun v w' => ∃ (k : Nat) (x : Int32) (S2 : StX), AG (isN p0 6) (True) (Dorder S p0) S k x S2 ∧ v = nI k ∧ LI o S2 S' w' ∧ (k = 0 → ∃ s, w'[o]? = some (.inr (8, [.long x.toInt64, s]))))) := by
  refine jMet_of hs (by decide +kernel) (Nat.le_of_ble_eq_true rfl) (L := [some (.ref 0), some (.int p0), some (.ref o), none]) rfl ?_
  obtain ⟨f0, h0⟩ := hI.c0
  refine J_aload_n (pc := 0) dL_order_0 rfl rfl rfl ?_
  refine J_aload_n (pc := 1) dL_order_1 rfl rfl rfl ?_
  refine J_iload_n (pc := 2) dL_order_2 rfl rfl ?_
  refine J_callV (pc := 3) (M := mL_order) (as := [.int p0]) dL_order_3 fw_X6_order fl_L_86 fm_X6_order fe_X6_order h0 (by decide) rfl rfl rfl (uu_order hs (d := d - 1) (by omega) hI p0 (kc := 1) (ks := 6) (Nat.le_refl _) (Nat.le_refl _)) (by omega) hkc hks (st := [.ref o]) (Nat.le_of_ble_eq_true rfl) rfl (kr_X (kr_J fun v w1 hI1 => ?_)) (kx_X fun E w1 hx => ?_)
  · obtain ⟨S2, hA, hI1⟩ := hI1
    refine J_i2l (pc := 6) dL_order_6 ?_
    obtain ⟨_, fs, h24, hl24⟩ := hI1.lo
    obtain ⟨f1, f2, rfl⟩ := two hl24
    refine J_putN (pc := 7) (k := 0) dL_order_7 kC8 (by decide) ff_L_13 rfl rfl h24 (by decide : (0 : Nat) < 2) (fun w2 hln2 hw2 hne2 => ?_)
    refine J_goto (pc := 10) (tgt := 16) dL_order_10 (by decide) ?_
    refine J_iconst (pc := 16) (v := nI 0) dL_order_16 (by decide) ?_
    exact J_iret (pc := 17) dL_order_17 rfl ⟨0, v, S2, hA, rfl, hI1.out hl24 hw2 hne2, fun _ => ⟨f2, hw2⟩⟩
  · obtain ⟨hE, hI1⟩ := hx
    obtain ⟨hE, hA⟩ := hE
    subst hE
    exact JX_catch1 rfl (by decide) (by decide) fc_L_25 fcast_IndexOutOfBoundsException (Or.inl ⟨3, dL_order_13, by decide, 1, dL_order_14, rfl, dL_order_15⟩) rfl ⟨1, 0, S, hA, rfl, hI1, fun h => absurd h (by decide)⟩
set_option maxRecDepth 100000 in
set_option maxHeartbeats 4000000 in
theorem c_L_sign {X : jX} (hs : X.1.stackTraces = false) {d : Nat} (hd : 42 ≤ d) {o : Nat} {S S' : StX} {w : List jC} (hI : LI o S S' w) (p0 : Int32) {kc ks : Nat} (hkc : 1 ≤ kc) (hks : 6 ≤ ks) : jMet X mL_sign d kc ks [.ref 0, .int p0, .ref o] w (pJ (fun v w' => ∃ (k : Nat) (x : Int32) (S2 : StX), AG (isN p0 6) (True) (Dsign S p0) S k x S2 ∧ v = nI k ∧ LI o S2 S' w' ∧ (k = 0 → ∃ s, w'[o]? = some (.inr (8, [.long x.toInt64, s]))))) := by
  refine jMet_of hs (by decide +kernel) (Nat.le_of_ble_eq_true rfl) (L := [some (.ref 0), some (.int p0), some (.ref o), none]) rfl ?_
  obtain ⟨f0, h0⟩ := hI.c0
  refine J_aload_n (pc := 0) dL_sign_0 rfl rfl rfl ?_
  refine J_aload_n (pc := 1) dL_sign_1 rfl rfl rfl ?_
  refine J_iload_n (pc := 2) dL_sign_2 rfl rfl ?_
  refine J_callV (pc := 3) (M := mL_sign) (as := [.int p0]) dL_sign_3 fw_X6_sign fl_L_89 fm_X6_sign fe_X6_sign h0 (by decide) rfl rfl rfl (uu_sign hs (d := d - 1) (by omega) hI p0 (kc := 1) (ks := 6) (Nat.le_refl _) (Nat.le_refl _)) (by omega) hkc hks (st := [.ref o]) (Nat.le_of_ble_eq_true rfl) rfl (kr_X (kr_J fun v w1 hI1 => ?_)) (kx_X fun E w1 hx => ?_)
  · obtain ⟨S2, hA, hI1⟩ := hI1
    refine J_i2l (pc := 6) dL_sign_6 ?_
    obtain ⟨_, fs, h24, hl24⟩ := hI1.lo
    obtain ⟨f1, f2, rfl⟩ := two hl24
    refine J_putN (pc := 7) (k := 0) dL_sign_7 kC8 (by decide) ff_L_13 rfl rfl h24 (by decide : (0 : Nat) < 2) (fun w2 hln2 hw2 hne2 => ?_)
    refine J_goto (pc := 10) (tgt := 16) dL_sign_10 (by decide) ?_
    refine J_iconst (pc := 16) (v := nI 0) dL_sign_16 (by decide) ?_
    exact J_iret (pc := 17) dL_sign_17 rfl ⟨0, v, S2, hA, rfl, hI1.out hl24 hw2 hne2, fun _ => ⟨f2, hw2⟩⟩
  · obtain ⟨hE, hI1⟩ := hx
    obtain ⟨hE, hA⟩ := hE
    subst hE
    exact JX_catch1 rfl (by decide) (by decide) fc_L_25 fcast_IndexOutOfBoundsException (Or.inl ⟨3, dL_sign_13, by decide, 1, dL_sign_14, rfl, dL_sign_15⟩) rfl ⟨1, 0, S, hA, rfl, hI1, fun h => absurd h (by decide)⟩
end
section
/-! the law's own methods -/
set_option maxRecDepth 100000 in
set_option maxHeartbeats 4000000 in
theorem c_L_stays {X : jX} (hs : X.1.stackTraces = false) {d : Nat} (hd : 42 ≤ d) {o : Nat} {S S' : StX} {w : List jC} (hI : LI o S S' w) (p0 : Int32) {kc ks : Nat} (hkc : 1 ≤ kc) (hks : 6 ≤ ks) : jMet X mL_stays d kc ks [.ref 0, .int p0, .ref o] w (pJ (fun v w' => ∃ (k : Nat) (x : Int32) (S2 : StX), AG (isN p0 6) (True) (Dstays S p0) S k x S2 ∧ v = nI k ∧ LI o S2 S' w' ∧ (k = 0 → ∃ s, w'[o]? = some (.inr (8, [.long x.toInt64, s]))))) := by
  refine jMet_of hs (by decide +kernel) (Nat.le_of_ble_eq_true rfl) (L := [some (.ref 0), some (.int p0), some (.ref o), none]) rfl ?_
  obtain ⟨f0, h0⟩ := hI.c0
  refine J_aload_n (pc := 0) dL_stays_0 rfl rfl rfl ?_
  refine J_aload_n (pc := 1) dL_stays_1 rfl rfl rfl ?_
  refine J_iload_n (pc := 2) dL_stays_2 rfl rfl ?_
  refine J_callV (pc := 3) (M := mL_stays) (as := [.int p0]) dL_stays_3 fw_X6_stays fl_L_92 fm_X6_stays fe_X6_stays h0 (by decide) rfl rfl rfl (uu_stays hs (d := d - 1) (by omega) hI p0 (kc := 1) (ks := 6) (Nat.le_refl _) (Nat.le_refl _)) (by omega) hkc hks (st := [.ref o]) (Nat.le_of_ble_eq_true rfl) rfl (kr_X (kr_J fun v w1 hI1 => ?_)) (kx_X fun E w1 hx => ?_)
  · obtain ⟨S2, hA, hI1⟩ := hI1
    refine J_i2l (pc := 6) dL_stays_6 ?_
    obtain ⟨_, fs, h24, hl24⟩ := hI1.lo
    obtain ⟨f1, f2, rfl⟩ := two hl24
    refine J_putN (pc := 7) (k := 0) dL_stays_7 kC8 (by decide) ff_L_13 rfl rfl h24 (by decide : (0 : Nat) < 2) (fun w2 hln2 hw2 hne2 => ?_)
    refine J_goto (pc := 10) (tgt := 16) dL_stays_10 (by decide) ?_
    refine J_iconst (pc := 16) (v := nI 0) dL_stays_16 (by decide) ?_
    exact J_iret (pc := 17) dL_stays_17 rfl ⟨0, v, S2, hA, rfl, hI1.out hl24 hw2 hne2, fun _ => ⟨f2, hw2⟩⟩
  · obtain ⟨hE, hI1⟩ := hx
    obtain ⟨hE, hA⟩ := hE
    subst hE
    exact JX_catch1 rfl (by decide) (by decide) fc_L_25 fcast_IndexOutOfBoundsException (Or.inl ⟨3, dL_stays_13, by decide, 1, dL_stays_14, rfl, dL_stays_15⟩) rfl ⟨1, 0, S, hA, rfl, hI1, fun h => absurd h (by decide)⟩
set_option maxRecDepth 100000 in
set_option maxHeartbeats 4000000 in
theorem c_L_areAlike {X : jX} (hs : X.1.stackTraces = false) {d : Nat} (hd : 42 ≤ d) {o : Nat} {S S' : StX} {w : List jC} (hI : LI o S S' w) (p0 : Int32) (p1 : Int32) {kc ks : Nat} (hkc : 2 ≤ kc) (hks : 12 ≤ ks) : jMet X mL_areAlike d kc ks [.ref 0, .int p0, .int p1, .ref o] w (pJ (fun v w' => ∃ (k : Nat) (x : Int32) (S2 : StX), AG (isN p0 6 ∧ isN p1 6) (True) (DareAlike S p0 p1) S k x S2 ∧ v = nI k ∧ LI o S2 S' w' ∧ (k = 0 → ∃ s, w'[o]? = some (.inr (8, [.long x.toInt64, s]))))) := by
  refine jMet_of hs (by decide +kernel) (Nat.le_of_ble_eq_true rfl) (L := [some (.ref 0), some (.int p0), some (.int p1), some (.ref o), none]) rfl ?_
  obtain ⟨f0, h0⟩ := hI.c0
  refine J_aload_n (pc := 0) dL_areAlike_0 rfl rfl rfl ?_
  refine J_aload_n (pc := 1) dL_areAlike_1 rfl rfl rfl ?_
  refine J_iload_n (pc := 2) dL_areAlike_2 rfl rfl ?_
  refine J_iload_n (pc := 3) dL_areAlike_3 rfl rfl ?_
  refine J_callV (pc := 4) (M := mL_areAlike) (as := [.int p0, .int p1]) dL_areAlike_4 fw_X6_areAlike fl_L_95 fm_X6_areAlike fe_X6_areAlike h0 (by decide) rfl rfl rfl (uu_areAlike hs (d := d - 1) (by omega) hI p0 p1 (kc := 2) (ks := 12) (Nat.le_refl _) (Nat.le_refl _)) (by omega) hkc hks (st := [.ref o]) (Nat.le_of_ble_eq_true rfl) rfl (kr_X (kr_J fun v w1 hI1 => ?_)) (kx_X fun E w1 hx => ?_)
  · obtain ⟨S2, hA, hI1⟩ := hI1
    have hB := bD_areAlike p0 p1 v S2 (AG.D0 hA)
    refine J_if_eq (pc := 7) (tgt := 14) dL_areAlike_7 (by decide) (fun hz => ?_) (fun hz => ?_)
    · obtain rfl : v = nI 0 := hz.trans nI_0.symm
      refine J_lconst (pc := 14) (v := (nI 0).toInt64) dL_areAlike_14 (by decide) ?_
      obtain ⟨_, fs, h24, hl24⟩ := hI1.lo
      obtain ⟨f1, f2, rfl⟩ := two hl24
      refine J_putN (pc := 15) (k := 0) dL_areAlike_15 kC8 (by decide) ff_L_13 rfl rfl h24 (by decide : (0 : Nat) < 2) (fun w2 hln2 hw2 hne2 => ?_)
      refine J_goto (pc := 18) (tgt := 25) dL_areAlike_18 (by decide) ?_
      refine J_iconst (pc := 25) (v := nI 0) dL_areAlike_25 (by decide) ?_
      exact J_iret (pc := 26) dL_areAlike_26 rfl ⟨0, nI 0, S2, hA, rfl, hI1.out hl24 hw2 hne2, fun _ => ⟨f2, hw2⟩⟩
    · obtain rfl : v = nI 1 := hB.resolve_left (fun e => hz (e.trans nI_0))
      refine J_lconst (pc := 10) (v := (nI 1).toInt64) dL_areAlike_10 (by decide) ?_
      refine J_goto (pc := 11) (tgt := 15) dL_areAlike_11 (by decide) ?_
      obtain ⟨_, fs, h24, hl24⟩ := hI1.lo
      obtain ⟨f1, f2, rfl⟩ := two hl24
      refine J_putN (pc := 15) (k := 0) dL_areAlike_15 kC8 (by decide) ff_L_13 rfl rfl h24 (by decide : (0 : Nat) < 2) (fun w2 hln2 hw2 hne2 => ?_)
      refine J_goto (pc := 18) (tgt := 25) dL_areAlike_18 (by decide) ?_
      refine J_iconst (pc := 25) (v := nI 0) dL_areAlike_25 (by decide) ?_
      exact J_iret (pc := 26) dL_areAlike_26 rfl ⟨0, nI 1, S2, hA, rfl, hI1.out hl24 hw2 hne2, fun _ => ⟨f2, hw2⟩⟩
  · obtain ⟨hE, hI1⟩ := hx
    obtain ⟨hE, hA⟩ := hE
    subst hE
    exact JX_catch1 rfl (by decide) (by decide) fc_L_25 fcast_IndexOutOfBoundsException (Or.inr ⟨4, dL_areAlike_21, by decide, 1, dL_areAlike_23, rfl, dL_areAlike_24⟩) rfl ⟨1, 0, S, hA, rfl, hI1, fun h => absurd h (by decide)⟩
set_option maxRecDepth 100000 in
set_option maxHeartbeats 4000000 in
theorem c_L_commute {X : jX} (hs : X.1.stackTraces = false) {d : Nat} (hd : 42 ≤ d) {o : Nat} {S S' : StX} {w : List jC} (hI : LI o S S' w) (p0 : Int32) (p1 : Int32) {kc ks : Nat} (hkc : 2 ≤ kc) (hks : 12 ≤ ks) : jMet X mL_commute d kc ks [.ref 0, .int p0, .int p1, .ref o] w (pJ (fun v w' => ∃ (k : Nat) (x : Int32) (S2 : StX), AG (isN p0 6 ∧ isN p1 6) (True) (Dcommute S p0 p1) S k x S2 ∧ v = nI k ∧ LI o S2 S' w' ∧ (k = 0 → ∃ s, w'[o]? = some (.inr (8, [.long x.toInt64, s]))))) := by
  refine jMet_of hs (by decide +kernel) (Nat.le_of_ble_eq_true rfl) (L := [some (.ref 0), some (.int p0), some (.int p1), some (.ref o), none]) rfl ?_
  obtain ⟨f0, h0⟩ := hI.c0
  refine J_aload_n (pc := 0) dL_commute_0 rfl rfl rfl ?_
  refine J_aload_n (pc := 1) dL_commute_1 rfl rfl rfl ?_
  refine J_iload_n (pc := 2) dL_commute_2 rfl rfl ?_
  refine J_iload_n (pc := 3) dL_commute_3 rfl rfl ?_
  refine J_callV (pc := 4) (M := mL_commute) (as := [.int p0, .int p1]) dL_commute_4 fw_X6_commute fl_L_99 fm_X6_commute fe_X6_commute h0 (by decide) rfl rfl rfl (uu_commute hs (d := d - 1) (by omega) hI p0 p1 (kc := 2) (ks := 12) (Nat.le_refl _) (Nat.le_refl _)) (by omega) hkc hks (st := [.ref o]) (Nat.le_of_ble_eq_true rfl) rfl (kr_X (kr_J fun v w1 hI1 => ?_)) (kx_X fun E w1 hx => ?_)
  · obtain ⟨S2, hA, hI1⟩ := hI1
    have hB := bD_commute p0 p1 v S2 (AG.D0 hA)
    refine J_if_eq (pc := 7) (tgt := 14) dL_commute_7 (by decide) (fun hz => ?_) (fun hz => ?_)
    · obtain rfl : v = nI 0 := hz.trans nI_0.symm
      refine J_lconst (pc := 14) (v := (nI 0).toInt64) dL_commute_14 (by decide) ?_
      obtain ⟨_, fs, h24, hl24⟩ := hI1.lo
      obtain ⟨f1, f2, rfl⟩ := two hl24
      refine J_putN (pc := 15) (k := 0) dL_commute_15 kC8 (by decide) ff_L_13 rfl rfl h24 (by decide : (0 : Nat) < 2) (fun w2 hln2 hw2 hne2 => ?_)
      refine J_goto (pc := 18) (tgt := 25) dL_commute_18 (by decide) ?_
      refine J_iconst (pc := 25) (v := nI 0) dL_commute_25 (by decide) ?_
      exact J_iret (pc := 26) dL_commute_26 rfl ⟨0, nI 0, S2, hA, rfl, hI1.out hl24 hw2 hne2, fun _ => ⟨f2, hw2⟩⟩
    · obtain rfl : v = nI 1 := hB.resolve_left (fun e => hz (e.trans nI_0))
      refine J_lconst (pc := 10) (v := (nI 1).toInt64) dL_commute_10 (by decide) ?_
      refine J_goto (pc := 11) (tgt := 15) dL_commute_11 (by decide) ?_
      obtain ⟨_, fs, h24, hl24⟩ := hI1.lo
      obtain ⟨f1, f2, rfl⟩ := two hl24
      refine J_putN (pc := 15) (k := 0) dL_commute_15 kC8 (by decide) ff_L_13 rfl rfl h24 (by decide : (0 : Nat) < 2) (fun w2 hln2 hw2 hne2 => ?_)
      refine J_goto (pc := 18) (tgt := 25) dL_commute_18 (by decide) ?_
      refine J_iconst (pc := 25) (v := nI 0) dL_commute_25 (by decide) ?_
      exact J_iret (pc := 26) dL_commute_26 rfl ⟨0, nI 1, S2, hA, rfl, hI1.out hl24 hw2 hne2, fun _ => ⟨f2, hw2⟩⟩
  · obtain ⟨hE, hI1⟩ := hx
    obtain ⟨hE, hA⟩ := hE
    subst hE
    exact JX_catch1 rfl (by decide) (by decide) fc_L_25 fcast_IndexOutOfBoundsException (Or.inr ⟨4, dL_commute_21, by decide, 1, dL_commute_23, rfl, dL_commute_24⟩) rfl ⟨1, 0, S, hA, rfl, hI1, fun h => absurd h (by decide)⟩
set_option maxRecDepth 100000 in
set_option maxHeartbeats 4000000 in
theorem c_L_size {X : jX} (hs : X.1.stackTraces = false) {d : Nat} (hd : 42 ≤ d) {o : Nat} {S S' : StX} {w : List jC} (hI : LI o S S' w) (p0 : Int32) (p1 : Int32) {kc ks : Nat} (hkc : 2 ≤ kc) (hks : 12 ≤ ks) : jMet X mL_size d kc ks [.ref 0, .int p0, .int p1, .ref o] w (pI (fun _ => True) (LI o S S')) := by
  refine jMet_of hs (by decide +kernel) (Nat.le_of_ble_eq_true rfl) (L := [some (.ref 0), some (.int p0), some (.int p1), some (.ref o), none]) rfl ?_
  obtain ⟨f0, h0⟩ := hI.c0
  refine J_aload_n (pc := 0) dL_size_0 rfl rfl rfl ?_
  refine J_aload_n (pc := 1) dL_size_1 rfl rfl rfl ?_
  refine J_iload_n (pc := 2) dL_size_2 rfl rfl ?_
  refine J_iload_n (pc := 3) dL_size_3 rfl rfl ?_
  refine J_callV (pc := 4) (M := mL_size) (as := [.int p0, .int p1]) dL_size_4 fw_X6_size fl_L_102 fm_X6_size fe_X6_size h0 (by decide) rfl rfl rfl (uu_size hs (d := d - 1) (by omega) hI p0 p1 (kc := 2) (ks := 12) (Nat.le_refl _) (Nat.le_refl _)) (by omega) hkc hks (st := [.ref o]) (Nat.le_of_ble_eq_true rfl) rfl (kr_X (kr_I fun v w1 _ hI1 => ?_)) (kx_X fun E w1 hx => ?_)
  · refine J_i2l (pc := 7) dL_size_7 (J_absL fun y => ?_)
    obtain ⟨_, fs, h24, hl24⟩ := hI1.lo
    refine J_putN (pc := 8) (k := 0) dL_size_8 kC8 (by decide) ff_L_13 rfl rfl h24 (by omega) (fun w2 hln2 hw2 hne2 => ?_)
    refine J_goto (pc := 11) (tgt := 22) dL_size_11 (by decide) ?_
    refine J_iconst (pc := 22) (v := nI 0) dL_size_22 (by decide) ?_
    exact J_iret (pc := 23) dL_size_23 rfl ⟨trivial, hI1.out hl24 hw2 hne2⟩
  · obtain ⟨hE, hI1⟩ := hx
    rcases hE with rfl | rfl
    · exact JX_catch1 rfl (by decide) (by decide) fc_L_25 fcast_IndexOutOfBoundsException (Or.inr ⟨4, dL_size_14, by decide, 1, dL_size_16, rfl, dL_size_17⟩) rfl ⟨trivial, hI1⟩
    · exact JX_catch2 rfl (by decide) fc_L_25 (List.mem_singleton.mpr rfl) (by decide) (by decide) fc_L_19 fcast_IllegalArgumentException (Or.inr ⟨4, dL_size_18, by decide, 2, dL_size_20, rfl, dL_size_21⟩) rfl ⟨trivial, hI1⟩
set_option maxRecDepth 100000 in
set_option maxHeartbeats 4000000 in
theorem c_L_reach {X : jX} (hs : X.1.stackTraces = false) {d : Nat} (hd : 42 ≤ d) {o : Nat} {S S' : StX} {w : List jC} (hI : LI o S S' w) (p0 : Int32) (p1 : Int32) (p2 : Int32) {kc ks : Nat} (hkc : 3 ≤ kc) (hks : 18 ≤ ks) : jMet X mL_reach d kc ks [.ref 0, .int p0, .int p1, .int p2, .ref o] w (pI (fun _ => True) (LI o S S')) := by
  refine jMet_of hs (by decide +kernel) (Nat.le_of_ble_eq_true rfl) (L := [some (.ref 0), some (.int p0), some (.int p1), some (.int p2), some (.ref o), none]) rfl ?_
  obtain ⟨f0, h0⟩ := hI.c0
  refine J_aload (pc := 0) dL_reach_0 rfl rfl ?_
  refine J_aload_n (pc := 2) dL_reach_2 rfl rfl rfl ?_
  refine J_iload_n (pc := 3) dL_reach_3 rfl rfl ?_
  refine J_iload_n (pc := 4) dL_reach_4 rfl rfl ?_
  refine J_iload_n (pc := 5) dL_reach_5 rfl rfl ?_
  refine J_callV (pc := 6) (M := mL_reach) (as := [.int p0, .int p1, .int p2]) dL_reach_6 fw_X6_reach fl_L_105 fm_X6_reach fe_X6_reach h0 (by decide) rfl rfl rfl (uu_reach hs (d := d - 1) (by omega) hI p0 p1 p2 (kc := 3) (ks := 18) (Nat.le_refl _) (Nat.le_refl _)) (by omega) hkc hks (st := [.ref o]) (Nat.le_of_ble_eq_true rfl) rfl (kr_X (kr_I fun v w1 _ hI1 => ?_)) (kx_X fun E w1 hx => ?_)
  · refine J_i2l (pc := 9) dL_reach_9 (J_absL fun y => ?_)
    obtain ⟨_, fs, h24, hl24⟩ := hI1.lo
    refine J_putN (pc := 10) (k := 0) dL_reach_10 kC8 (by decide) ff_L_13 rfl rfl h24 (by omega) (fun w2 hln2 hw2 hne2 => ?_)
    refine J_goto (pc := 13) (tgt := 24) dL_reach_13 (by decide) ?_
    refine J_iconst (pc := 24) (v := nI 0) dL_reach_24 (by decide) ?_
    exact J_iret (pc := 25) dL_reach_25 rfl ⟨trivial, hI1.out hl24 hw2 hne2⟩
  · obtain ⟨hE, hI1⟩ := hx
    rcases hE with rfl | rfl
    · exact JX_catch1 rfl (by decide) (by decide) fc_L_25 fcast_IndexOutOfBoundsException (Or.inr ⟨5, dL_reach_16, by decide, 1, dL_reach_18, rfl, dL_reach_19⟩) rfl ⟨trivial, hI1⟩
    · exact JX_catch2 rfl (by decide) fc_L_25 (List.mem_singleton.mpr rfl) (by decide) (by decide) fc_L_19 fcast_IllegalArgumentException (Or.inr ⟨5, dL_reach_20, by decide, 2, dL_reach_22, rfl, dL_reach_23⟩) rfl ⟨trivial, hI1⟩
set_option maxRecDepth 100000 in
set_option maxHeartbeats 4000000 in
theorem c_L_isIn {X : jX} (hs : X.1.stackTraces = false) {d : Nat} (hd : 42 ≤ d) {o : Nat} {S S' : StX} {w : List jC} (hI : LI o S S' w) (p0 : Int32) (p1 : Int32) (p2 : Int32) {kc ks : Nat} (hkc : 3 ≤ kc) (hks : 18 ≤ ks) : jMet X mL_isIn d kc ks [.ref 0, .int p0, .int p1, .int p2, .ref o] w (pI (fun _ => True) (LI o S S')) := by
  refine jMet_of hs (by decide +kernel) (Nat.le_of_ble_eq_true rfl) (L := [some (.ref 0), some (.int p0), some (.int p1), some (.int p2), some (.ref o), none]) rfl ?_
  obtain ⟨f0, h0⟩ := hI.c0
  refine J_aload (pc := 0) dL_isIn_0 rfl rfl ?_
  refine J_aload_n (pc := 2) dL_isIn_2 rfl rfl rfl ?_
  refine J_iload_n (pc := 3) dL_isIn_3 rfl rfl ?_
  refine J_iload_n (pc := 4) dL_isIn_4 rfl rfl ?_
  refine J_iload_n (pc := 5) dL_isIn_5 rfl rfl ?_
  refine J_callV (pc := 6) (M := mL_isIn) (as := [.int p0, .int p1, .int p2]) dL_isIn_6 fw_X6_isIn fl_L_108 fm_X6_isIn fe_X6_isIn h0 (by decide) rfl rfl rfl (uu_isIn hs (d := d - 1) (by omega) hI p0 p1 p2 (kc := 3) (ks := 18) (Nat.le_refl _) (Nat.le_refl _)) (by omega) hkc hks (st := [.ref o]) (Nat.le_of_ble_eq_true rfl) rfl (kr_X (kr_I fun v w1 _ hI1 => ?_)) (kx_X fun E w1 hx => ?_)
  · refine J_if_eq (pc := 9) (tgt := 16) dL_isIn_9 (by decide) (fun _ => ?_) (fun _ => ?_)
    · refine J_lconst (pc := 16) dL_isIn_16 rfl (J_absL fun y => ?_)
      obtain ⟨_, fs, h24, hl24⟩ := hI1.lo
      refine J_putN (pc := 17) (k := 0) dL_isIn_17 kC8 (by decide) ff_L_13 rfl rfl h24 (by omega) (fun w2 hln2 hw2 hne2 => ?_)
      refine J_goto (pc := 20) (tgt := 31) dL_isIn_20 (by decide) ?_
      refine J_iconst (pc := 31) (v := nI 0) dL_isIn_31 (by decide) ?_
      exact J_iret (pc := 32) dL_isIn_32 rfl ⟨trivial, hI1.out hl24 hw2 hne2⟩
    · refine J_lconst (pc := 12) dL_isIn_12 rfl (J_absL fun y => ?_)
      refine J_goto (pc := 13) (tgt := 17) dL_isIn_13 (by decide) ?_
      obtain ⟨_, fs, h24, hl24⟩ := hI1.lo
      refine J_putN (pc := 17) (k := 0) dL_isIn_17 kC8 (by decide) ff_L_13 rfl rfl h24 (by omega) (fun w2 hln2 hw2 hne2 => ?_)
      refine J_goto (pc := 20) (tgt := 31) dL_isIn_20 (by decide) ?_
      refine J_iconst (pc := 31) (v := nI 0) dL_isIn_31 (by decide) ?_
      exact J_iret (pc := 32) dL_isIn_32 rfl ⟨trivial, hI1.out hl24 hw2 hne2⟩
  · obtain ⟨hE, hI1⟩ := hx
    rcases hE with rfl | rfl
    · exact JX_catch1 rfl (by decide) (by decide) fc_L_25 fcast_IndexOutOfBoundsException (Or.inr ⟨5, dL_isIn_23, by decide, 1, dL_isIn_25, rfl, dL_isIn_26⟩) rfl ⟨trivial, hI1⟩
    · exact JX_catch2 rfl (by decide) fc_L_25 (List.mem_singleton.mpr rfl) (by decide) (by decide) fc_L_19 fcast_IllegalArgumentException (Or.inr ⟨5, dL_isIn_27, by decide, 2, dL_isIn_29, rfl, dL_isIn_30⟩) rfl ⟨trivial, hI1⟩
set_option maxRecDepth 100000 in
set_option maxHeartbeats 4000000 in
theorem c_L_rank {X : jX} (hs : X.1.stackTraces = false) {d : Nat} (hd : 42 ≤ d) {o : Nat} {S S' : StX} {w : List jC} (hI : LI o S S' w) (p0 : Int32) (p1 : Int32) (p2 : Int32) {kc ks : Nat} (hkc : 3 ≤ kc) (hks : 18 ≤ ks) : jMet X mL_rank d kc ks [.ref 0, .int p0, .int p1, .int p2, .ref o] w (pI (fun _ => True) (LI o S S')) := by
  refine jMet_of hs (by decide +kernel) (Nat.le_of_ble_eq_true rfl) (L := [some (.ref 0), some (.int p0), some (.int p1), some (.int p2), some (.ref o), none]) rfl ?_
  obtain ⟨f0, h0⟩ := hI.c0
  refine J_aload (pc := 0) dL_rank_0 rfl rfl ?_
  refine J_aload_n (pc := 2) dL_rank_2 rfl rfl rfl ?_
  refine J_iload_n (pc := 3) dL_rank_3 rfl rfl ?_
  refine J_iload_n (pc := 4) dL_rank_4 rfl rfl ?_
  refine J_iload_n (pc := 5) dL_rank_5 rfl rfl ?_
  refine J_callV (pc := 6) (M := mL_rank) (as := [.int p0, .int p1, .int p2]) dL_rank_6 fw_X6_rank fl_L_112 fm_X6_rank fe_X6_rank h0 (by decide) rfl rfl rfl (uu_rank hs (d := d - 1) (by omega) hI p0 p1 p2 (kc := 3) (ks := 18) (Nat.le_refl _) (Nat.le_refl _)) (by omega) hkc hks (st := [.ref o]) (Nat.le_of_ble_eq_true rfl) rfl (kr_X (kr_I fun v w1 _ hI1 => ?_)) (kx_X fun E w1 hx => ?_)
  · refine J_i2l (pc := 9) dL_rank_9 (J_absL fun y => ?_)
    obtain ⟨_, fs, h24, hl24⟩ := hI1.lo
    refine J_putN (pc := 10) (k := 0) dL_rank_10 kC8 (by decide) ff_L_13 rfl rfl h24 (by omega) (fun w2 hln2 hw2 hne2 => ?_)
    refine J_goto (pc := 13) (tgt := 24) dL_rank_13 (by decide) ?_
    refine J_iconst (pc := 24) (v := nI 0) dL_rank_24 (by decide) ?_
    exact J_iret (pc := 25) dL_rank_25 rfl ⟨trivial, hI1.out hl24 hw2 hne2⟩
  · obtain ⟨hE, hI1⟩ := hx
    rcases hE with rfl | rfl
    · exact JX_catch1 rfl (by decide) (by decide) fc_L_25 fcast_IndexOutOfBoundsException (Or.inr ⟨5, dL_rank_16, by decide, 1, dL_rank_18, rfl, dL_rank_19⟩) rfl ⟨trivial, hI1⟩
    · exact JX_catch2 rfl (by decide) fc_L_25 (List.mem_singleton.mpr rfl) (by decide) (by decide) fc_L_19 fcast_IllegalArgumentException (Or.inr ⟨5, dL_rank_20, by decide, 2, dL_rank_22, rfl, dL_rank_23⟩) rfl ⟨trivial, hI1⟩
set_option maxRecDepth 100000 in
set_option maxHeartbeats 4000000 in
theorem c_L_list {X : jX} (hs : X.1.stackTraces = false) {d : Nat} (hd : 42 ≤ d) (hXO : XO X) {o : Nat} {S S' : StX} {w : List jC} (hI : LI o S S' w) (p0 : Int32) (p1 : Int32) {kc ks : Nat} (hkc : 40 ≤ kc) (hks : 1500 ≤ ks) : jMet X mL_list d kc ks [.ref 0, .int p0, .int p1, .ref o] w (pI (fun _ => True) (LI o S S')) := by
  refine jMet_of hs (by decide +kernel) (Nat.le_of_ble_eq_true rfl) (L := [some (.ref 0), some (.int p0), some (.int p1), some (.ref o), none]) rfl ?_
  obtain ⟨f0, h0⟩ := hI.c0
  refine J_aload_n (pc := 0) dL_list_0 rfl rfl rfl ?_
  refine J_aload_n (pc := 1) dL_list_1 rfl rfl rfl ?_
  refine J_iload_n (pc := 2) dL_list_2 rfl rfl ?_
  refine J_iload_n (pc := 3) dL_list_3 rfl rfl ?_
  refine J_callV (pc := 4) (M := mL_list) (as := [.int p0, .int p1]) dL_list_4 fw_X6_list fl_L_115 fm_X6_list fe_X6_list h0 (by decide) rfl rfl rfl (uu_list hs (d := d - 1) (by omega) hXO hI p0 p1 (kc := 40) (ks := 1500) (Nat.le_refl _) (Nat.le_refl _)) (by omega) hkc hks (st := [.ref o]) (Nat.le_of_ble_eq_true rfl) rfl (kr_X (kr_A fun a w1 hI1 => ?_)) (kx_X fun E w1 hx => ?_)
  · obtain ⟨_, fs, h24, hl24⟩ := hI1.lo
    refine J_putN (pc := 7) (k := 1) dL_list_7 kC8 (by decide) ff_L_75 rfl rfl h24 (by omega) (fun w2 hln2 hw2 hne2 => ?_)
    refine J_goto (pc := 10) (tgt := 17) dL_list_10 (by decide) ?_
    refine J_iconst (pc := 17) (v := nI 0) dL_list_17 (by decide) ?_
    exact J_iret (pc := 18) dL_list_18 rfl ⟨trivial, hI1.out hl24 hw2 hne2⟩
  · obtain ⟨hE, hI1⟩ := hx
    subst hE
    exact JX_catch1 rfl (by decide) (by decide) fc_L_19 fcast_IllegalArgumentException (Or.inr ⟨4, dL_list_13, by decide, 1, dL_list_15, rfl, dL_list_16⟩) rfl ⟨trivial, hI1⟩
set_option maxRecDepth 100000 in
set_option maxHeartbeats 4000000 in
theorem c_L_comes {X : jX} (hs : X.1.stackTraces = false) {d : Nat} (hd : 42 ≤ d) {o : Nat} {S S' : StX} {w : List jC} (hI : LI o S S' w) (p0 : Int32) (p1 : Int32) {kc ks : Nat} (hkc : 2 ≤ kc) (hks : 12 ≤ ks) : jMet X mL_comes d kc ks [.ref 0, .int p0, .int p1, .ref o] w (pI (fun _ => True) (LI o S S')) := by
  refine jMet_of hs (by decide +kernel) (Nat.le_of_ble_eq_true rfl) (L := [some (.ref 0), some (.int p0), some (.int p1), some (.ref o), none]) rfl ?_
  obtain ⟨f0, h0⟩ := hI.c0
  refine J_aload_n (pc := 0) dL_comes_0 rfl rfl rfl ?_
  refine J_aload_n (pc := 1) dL_comes_1 rfl rfl rfl ?_
  refine J_iload_n (pc := 2) dL_comes_2 rfl rfl ?_
  refine J_iload_n (pc := 3) dL_comes_3 rfl rfl ?_
  refine J_callV (pc := 4) (M := mL_comes) (as := [.int p0, .int p1]) dL_comes_4 fw_X6_comes fl_L_118 fm_X6_comes fe_X6_comes h0 (by decide) rfl rfl rfl (uu_comes hs (d := d - 1) (by omega) hI p0 p1 (kc := 2) (ks := 12) (Nat.le_refl _) (Nat.le_refl _)) (by omega) hkc hks (st := [.ref o]) (Nat.le_of_ble_eq_true rfl) rfl (kr_X (kr_I fun v w1 _ hI1 => ?_)) (kx_X fun E w1 hx => ?_)
  · refine J_i2l (pc := 7) dL_comes_7 (J_absL fun y => ?_)
    obtain ⟨_, fs, h24, hl24⟩ := hI1.lo
    refine J_putN (pc := 8) (k := 0) dL_comes_8 kC8 (by decide) ff_L_13 rfl rfl h24 (by omega) (fun w2 hln2 hw2 hne2 => ?_)
    refine J_goto (pc := 11) (tgt := 22) dL_comes_11 (by decide) ?_
    refine J_iconst (pc := 22) (v := nI 0) dL_comes_22 (by decide) ?_
    exact J_iret (pc := 23) dL_comes_23 rfl ⟨trivial, hI1.out hl24 hw2 hne2⟩
  · obtain ⟨hE, hI1⟩ := hx
    rcases hE with rfl | rfl
    · exact JX_catch1 rfl (by decide) (by decide) fc_L_25 fcast_IndexOutOfBoundsException (Or.inr ⟨4, dL_comes_14, by decide, 1, dL_comes_16, rfl, dL_comes_17⟩) rfl ⟨trivial, hI1⟩
    · exact JX_catch2 rfl (by decide) fc_L_25 (List.mem_singleton.mpr rfl) (by decide) (by decide) fc_L_19 fcast_IllegalArgumentException (Or.inr ⟨4, dL_comes_18, by decide, 2, dL_comes_20, rfl, dL_comes_21⟩) rfl ⟨trivial, hI1⟩
set_option maxRecDepth 100000 in
set_option maxHeartbeats 4000000 in
theorem c_L_pieces {X : jX} (hs : X.1.stackTraces = false) {d : Nat} (hd : 42 ≤ d) {o : Nat} {S S' : StX} {w : List jC} (hI : LI o S S' w) (p0 : Int32) {kc ks : Nat} (hkc : 1 ≤ kc) (hks : 6 ≤ ks) : jMet X mL_pieces d kc ks [.ref 0, .int p0, .ref o] w (pI (fun _ => True) (LI o S S')) := by
  refine jMet_of hs (by decide +kernel) (Nat.le_of_ble_eq_true rfl) (L := [some (.ref 0), some (.int p0), some (.ref o), none]) rfl ?_
  obtain ⟨f0, h0⟩ := hI.c0
  refine J_aload_n (pc := 0) dL_pieces_0 rfl rfl rfl ?_
  refine J_aload_n (pc := 1) dL_pieces_1 rfl rfl rfl ?_
  refine J_iload_n (pc := 2) dL_pieces_2 rfl rfl ?_
  refine J_callV (pc := 3) (M := mL_pieces) (as := [.int p0]) dL_pieces_3 fw_X6_pieces fl_L_121 fm_X6_pieces fe_X6_pieces h0 (by decide) rfl rfl rfl (uu_pieces hs (d := d - 1) (by omega) hI p0 (kc := 1) (ks := 6) (Nat.le_refl _) (Nat.le_refl _)) (by omega) hkc hks (st := [.ref o]) (Nat.le_of_ble_eq_true rfl) rfl (kr_X (kr_I fun v w1 _ hI1 => ?_)) (kx_X fun E w1 hx => ?_)
  · refine J_i2l (pc := 6) dL_pieces_6 (J_absL fun y => ?_)
    obtain ⟨_, fs, h24, hl24⟩ := hI1.lo
    refine J_putN (pc := 7) (k := 0) dL_pieces_7 kC8 (by decide) ff_L_13 rfl rfl h24 (by omega) (fun w2 hln2 hw2 hne2 => ?_)
    refine J_goto (pc := 10) (tgt := 16) dL_pieces_10 (by decide) ?_
    refine J_iconst (pc := 16) (v := nI 0) dL_pieces_16 (by decide) ?_
    exact J_iret (pc := 17) dL_pieces_17 rfl ⟨trivial, hI1.out hl24 hw2 hne2⟩
  · obtain ⟨hE, hI1⟩ := hx
    subst hE
    exact JX_catch1 rfl (by decide) (by decide) fc_L_19 fcast_IllegalArgumentException (Or.inl ⟨3, dL_pieces_13, by decide, 1, dL_pieces_14, rfl, dL_pieces_15⟩) rfl ⟨trivial, hI1⟩
set_option maxRecDepth 100000 in
set_option maxHeartbeats 4000000 in
theorem c_L_withOrder {X : jX} (hs : X.1.stackTraces = false) {d : Nat} (hd : 42 ≤ d) {o : Nat} {S S' : StX} {w : List jC} (hI : LI o S S' w) (p0 : Int32) (p1 : Int32) {kc ks : Nat} (hkc : 2 ≤ kc) (hks : 12 ≤ ks) : jMet X mL_withOrder d kc ks [.ref 0, .int p0, .int p1, .ref o] w (pI (fun _ => True) (LI o S S')) := by
  refine jMet_of hs (by decide +kernel) (Nat.le_of_ble_eq_true rfl) (L := [some (.ref 0), some (.int p0), some (.int p1), some (.ref o), none]) rfl ?_
  obtain ⟨f0, h0⟩ := hI.c0
  refine J_aload_n (pc := 0) dL_withOrder_0 rfl rfl rfl ?_
  refine J_aload_n (pc := 1) dL_withOrder_1 rfl rfl rfl ?_
  refine J_iload_n (pc := 2) dL_withOrder_2 rfl rfl ?_
  refine J_iload_n (pc := 3) dL_withOrder_3 rfl rfl ?_
  refine J_callV (pc := 4) (M := mL_withOrder) (as := [.int p0, .int p1]) dL_withOrder_4 fw_X6_withOrder fl_L_124 fm_X6_withOrder fe_X6_withOrder h0 (by decide) rfl rfl rfl (uu_withOrder hs (d := d - 1) (by omega) hI p0 p1 (kc := 2) (ks := 12) (Nat.le_refl _) (Nat.le_refl _)) (by omega) hkc hks (st := [.ref o]) (Nat.le_of_ble_eq_true rfl) rfl (kr_X (kr_I fun v w1 _ hI1 => ?_)) (kx_X fun E w1 hx => ?_)
  · refine J_i2l (pc := 7) dL_withOrder_7 (J_absL fun y => ?_)
    obtain ⟨_, fs, h24, hl24⟩ := hI1.lo
    refine J_putN (pc := 8) (k := 0) dL_withOrder_8 kC8 (by decide) ff_L_13 rfl rfl h24 (by omega) (fun w2 hln2 hw2 hne2 => ?_)
    refine J_goto (pc := 11) (tgt := 18) dL_withOrder_11 (by decide) ?_
    refine J_iconst (pc := 18) (v := nI 0) dL_withOrder_18 (by decide) ?_
    exact J_iret (pc := 19) dL_withOrder_19 rfl ⟨trivial, hI1.out hl24 hw2 hne2⟩
  · obtain ⟨hE, hI1⟩ := hx
    subst hE
    exact JX_catch1 rfl (by decide) (by decide) fc_L_19 fcast_IllegalArgumentException (Or.inr ⟨4, dL_withOrder_14, by decide, 1, dL_withOrder_16, rfl, dL_withOrder_17⟩) rfl ⟨trivial, hI1⟩
set_option maxRecDepth 100000 in
set_option maxHeartbeats 4000000 in
theorem c_L_even {X : jX} (hs : X.1.stackTraces = false) {d : Nat} (hd : 42 ≤ d) {o : Nat} {S S' : StX} {w : List jC} (hI : LI o S S' w) (p0 : Int32) {kc ks : Nat} (hkc : 1 ≤ kc) (hks : 6 ≤ ks) : jMet X mL_even d kc ks [.ref 0, .int p0, .ref o] w (pI (fun _ => True) (LI o S S')) := by
  refine jMet_of hs (by decide +kernel) (Nat.le_of_ble_eq_true rfl) (L := [some (.ref 0), some (.int p0), some (.ref o), none]) rfl ?_
  obtain ⟨f0, h0⟩ := hI.c0
  refine J_aload_n (pc := 0) dL_even_0 rfl rfl rfl ?_
  refine J_aload_n (pc := 1) dL_even_1 rfl rfl rfl ?_
  refine J_iload_n (pc := 2) dL_even_2 rfl rfl ?_
  refine J_callV (pc := 3) (M := mL_even) (as := [.int p0]) dL_even_3 fw_X6_even fl_L_127 fm_X6_even fe_X6_even h0 (by decide) rfl rfl rfl (uu_even hs (d := d - 1) (by omega) hI p0 (kc := 1) (ks := 6) (Nat.le_refl _) (Nat.le_refl _)) (by omega) hkc hks (st := [.ref o]) (Nat.le_of_ble_eq_true rfl) rfl (kr_X (kr_I fun v w1 _ hI1 => ?_)) (kx_X fun E w1 hx => ?_)
  · refine J_i2l (pc := 6) dL_even_6 (J_absL fun y => ?_)
    obtain ⟨_, fs, h24, hl24⟩ := hI1.lo
    refine J_putN (pc := 7) (k := 0) dL_even_7 kC8 (by decide) ff_L_13 rfl rfl h24 (by omega) (fun w2 hln2 hw2 hne2 => ?_)
    refine J_goto (pc := 10) (tgt := 16) dL_even_10 (by decide) ?_
    refine J_iconst (pc := 16) (v := nI 0) dL_even_16 (by decide) ?_
    exact J_iret (pc := 17) dL_even_17 rfl ⟨trivial, hI1.out hl24 hw2 hne2⟩
  · obtain ⟨hE, hI1⟩ := hx
    subst hE
    exact JX_catch1 rfl (by decide) (by decide) fc_L_19 fcast_IllegalArgumentException (Or.inl ⟨3, dL_even_13, by decide, 1, dL_even_14, rfl, dL_even_15⟩) rfl ⟨trivial, hI1⟩
set_option maxRecDepth 100000 in
set_option maxHeartbeats 4000000 in
theorem c_L_colourings {X : jX} (hs : X.1.stackTraces = false) {d : Nat} (hd : 42 ≤ d) {o : Nat} {S S' : StX} {w : List jC} (hI : LI o S S' w) (p0 : Int32) (p1 : Int32) (p2 : Int32) {kc ks : Nat} (hkc : 3 ≤ kc) (hks : 18 ≤ ks) : jMet X mL_colourings d kc ks [.ref 0, .int p0, .int p1, .int p2, .ref o] w (pI (fun _ => True) (LI o S S')) := by
  refine jMet_of hs (by decide +kernel) (Nat.le_of_ble_eq_true rfl) (L := [some (.ref 0), some (.int p0), some (.int p1), some (.int p2), some (.ref o), none]) rfl ?_
  obtain ⟨f0, h0⟩ := hI.c0
  refine J_aload (pc := 0) dL_colourings_0 rfl rfl ?_
  refine J_aload_n (pc := 2) dL_colourings_2 rfl rfl rfl ?_
  refine J_iload_n (pc := 3) dL_colourings_3 rfl rfl ?_
  refine J_iload_n (pc := 4) dL_colourings_4 rfl rfl ?_
  refine J_iload_n (pc := 5) dL_colourings_5 rfl rfl ?_
  refine J_callV (pc := 6) (M := mL_colourings) (as := [.int p0, .int p1, .int p2]) dL_colourings_6 fw_X6_colourings fl_L_130 fm_X6_colourings fe_X6_colourings h0 (by decide) rfl rfl rfl (uu_colourings hs (d := d - 1) (by omega) hI p0 p1 p2 (kc := 3) (ks := 18) (Nat.le_refl _) (Nat.le_refl _)) (by omega) hkc hks (st := [.ref o]) (Nat.le_of_ble_eq_true rfl) rfl (kr_X (kr_I fun v w1 _ hI1 => ?_)) (kx_X fun E w1 hx => ?_)
  · refine J_i2l (pc := 9) dL_colourings_9 (J_absL fun y => ?_)
    obtain ⟨_, fs, h24, hl24⟩ := hI1.lo
    refine J_putN (pc := 10) (k := 0) dL_colourings_10 kC8 (by decide) ff_L_13 rfl rfl h24 (by omega) (fun w2 hln2 hw2 hne2 => ?_)
    refine J_goto (pc := 13) (tgt := 20) dL_colourings_13 (by decide) ?_
    refine J_iconst (pc := 20) (v := nI 0) dL_colourings_20 (by decide) ?_
    exact J_iret (pc := 21) dL_colourings_21 rfl ⟨trivial, hI1.out hl24 hw2 hne2⟩
  · obtain ⟨hE, hI1⟩ := hx
    subst hE
    exact JX_catch1 rfl (by decide) (by decide) fc_L_19 fcast_IllegalArgumentException (Or.inr ⟨5, dL_colourings_16, by decide, 1, dL_colourings_18, rfl, dL_colourings_19⟩) rfl ⟨trivial, hI1⟩
set_option maxRecDepth 100000 in
set_option maxHeartbeats 4000000 in
theorem c_L_isPart {X : jX} (hs : X.1.stackTraces = false) {d : Nat} (hd : 42 ≤ d) {o : Nat} {S S' : StX} {w : List jC} (hI : LI o S S' w) (p0 : Int32) (p1 : Int32) {kc ks : Nat} (hkc : 2 ≤ kc) (hks : 12 ≤ ks) : jMet X mL_isPart d kc ks [.ref 0, .int p0, .int p1, .ref o] w (pI (fun _ => True) (LI o S S')) := by
  refine jMet_of hs (by decide +kernel) (Nat.le_of_ble_eq_true rfl) (L := [some (.ref 0), some (.int p0), some (.int p1), some (.ref o), none]) rfl ?_
  obtain ⟨f0, h0⟩ := hI.c0
  refine J_aload_n (pc := 0) dL_isPart_0 rfl rfl rfl ?_
  refine J_aload_n (pc := 1) dL_isPart_1 rfl rfl rfl ?_
  refine J_iload_n (pc := 2) dL_isPart_2 rfl rfl ?_
  refine J_iload_n (pc := 3) dL_isPart_3 rfl rfl ?_
  refine J_callV (pc := 4) (M := mL_isPart) (as := [.int p0, .int p1]) dL_isPart_4 fw_X6_isPart fl_L_133 fm_X6_isPart fe_X6_isPart h0 (by decide) rfl rfl rfl (uu_isPart hs (d := d - 1) (by omega) hI p0 p1 (kc := 2) (ks := 12) (Nat.le_refl _) (Nat.le_refl _)) (by omega) hkc hks (st := [.ref o]) (Nat.le_of_ble_eq_true rfl) rfl (kr_X (kr_I fun v w1 _ hI1 => ?_)) (kx_X fun E w1 hx => ?_)
  · refine J_if_eq (pc := 7) (tgt := 14) dL_isPart_7 (by decide) (fun _ => ?_) (fun _ => ?_)
    · refine J_lconst (pc := 14) dL_isPart_14 rfl (J_absL fun y => ?_)
      obtain ⟨_, fs, h24, hl24⟩ := hI1.lo
      refine J_putN (pc := 15) (k := 0) dL_isPart_15 kC8 (by decide) ff_L_13 rfl rfl h24 (by omega) (fun w2 hln2 hw2 hne2 => ?_)
      refine J_goto (pc := 18) (tgt := 25) dL_isPart_18 (by decide) ?_
      refine J_iconst (pc := 25) (v := nI 0) dL_isPart_25 (by decide) ?_
      exact J_iret (pc := 26) dL_isPart_26 rfl ⟨trivial, hI1.out hl24 hw2 hne2⟩
    · refine J_lconst (pc := 10) dL_isPart_10 rfl (J_absL fun y => ?_)
      refine J_goto (pc := 11) (tgt := 15) dL_isPart_11 (by decide) ?_
      obtain ⟨_, fs, h24, hl24⟩ := hI1.lo
      refine J_putN (pc := 15) (k := 0) dL_isPart_15 kC8 (by decide) ff_L_13 rfl rfl h24 (by omega) (fun w2 hln2 hw2 hne2 => ?_)
      refine J_goto (pc := 18) (tgt := 25) dL_isPart_18 (by decide) ?_
      refine J_iconst (pc := 25) (v := nI 0) dL_isPart_25 (by decide) ?_
      exact J_iret (pc := 26) dL_isPart_26 rfl ⟨trivial, hI1.out hl24 hw2 hne2⟩
  · obtain ⟨hE, hI1⟩ := hx
    subst hE
    exact JX_catch1 rfl (by decide) (by decide) fc_L_19 fcast_IllegalArgumentException (Or.inr ⟨4, dL_isPart_21, by decide, 1, dL_isPart_23, rfl, dL_isPart_24⟩) rfl ⟨trivial, hI1⟩
set_option maxRecDepth 100000 in
set_option maxHeartbeats 4000000 in
theorem c_L_shares {X : jX} (hs : X.1.stackTraces = false) {d : Nat} (hd : 42 ≤ d) {o : Nat} {S S' : StX} {w : List jC} (hI : LI o S S' w) (p0 : Int32) (p1 : Int32) {kc ks : Nat} (hkc : 2 ≤ kc) (hks : 12 ≤ ks) : jMet X mL_shares d kc ks [.ref 0, .int p0, .int p1, .ref o] w (pI (fun _ => True) (LI o S S')) := by
  refine jMet_of hs (by decide +kernel) (Nat.le_of_ble_eq_true rfl) (L := [some (.ref 0), some (.int p0), some (.int p1), some (.ref o), none]) rfl ?_
  obtain ⟨f0, h0⟩ := hI.c0
  refine J_aload_n (pc := 0) dL_shares_0 rfl rfl rfl ?_
  refine J_aload_n (pc := 1) dL_shares_1 rfl rfl rfl ?_
  refine J_iload_n (pc := 2) dL_shares_2 rfl rfl ?_
  refine J_iload_n (pc := 3) dL_shares_3 rfl rfl ?_
  refine J_callV (pc := 4) (M := mL_shares) (as := [.int p0, .int p1]) dL_shares_4 fw_X6_shares fl_L_136 fm_X6_shares fe_X6_shares h0 (by decide) rfl rfl rfl (uu_shares hs (d := d - 1) (by omega) hI p0 p1 (kc := 2) (ks := 12) (Nat.le_refl _) (Nat.le_refl _)) (by omega) hkc hks (st := [.ref o]) (Nat.le_of_ble_eq_true rfl) rfl (kr_X (kr_I fun v w1 _ hI1 => ?_)) (kx_X fun E w1 hx => ?_)
  · refine J_i2l (pc := 7) dL_shares_7 (J_absL fun y => ?_)
    obtain ⟨_, fs, h24, hl24⟩ := hI1.lo
    refine J_putN (pc := 8) (k := 0) dL_shares_8 kC8 (by decide) ff_L_13 rfl rfl h24 (by omega) (fun w2 hln2 hw2 hne2 => ?_)
    refine J_goto (pc := 11) (tgt := 18) dL_shares_11 (by decide) ?_
    refine J_iconst (pc := 18) (v := nI 0) dL_shares_18 (by decide) ?_
    exact J_iret (pc := 19) dL_shares_19 rfl ⟨trivial, hI1.out hl24 hw2 hne2⟩
  · obtain ⟨hE, hI1⟩ := hx
    subst hE
    exact JX_catch1 rfl (by decide) (by decide) fc_L_19 fcast_IllegalArgumentException (Or.inr ⟨4, dL_shares_14, by decide, 1, dL_shares_16, rfl, dL_shares_17⟩) rfl ⟨trivial, hI1⟩
set_option maxRecDepth 100000 in
set_option maxHeartbeats 4000000 in
theorem c_L_share {X : jX} (hs : X.1.stackTraces = false) {d : Nat} (hd : 42 ≤ d) {o : Nat} {S S' : StX} {w : List jC} (hI : LI o S S' w) (p0 : Int32) (p1 : Int32) {kc ks : Nat} (hkc : 2 ≤ kc) (hks : 12 ≤ ks) : jMet X mL_share d kc ks [.ref 0, .int p0, .int p1, .ref o] w (pI (fun _ => True) (LI o S S')) := by
  refine jMet_of hs (by decide +kernel) (Nat.le_of_ble_eq_true rfl) (L := [some (.ref 0), some (.int p0), some (.int p1), some (.ref o), none]) rfl ?_
  obtain ⟨f0, h0⟩ := hI.c0
  refine J_aload_n (pc := 0) dL_share_0 rfl rfl rfl ?_
  refine J_aload_n (pc := 1) dL_share_1 rfl rfl rfl ?_
  refine J_iload_n (pc := 2) dL_share_2 rfl rfl ?_
  refine J_iload_n (pc := 3) dL_share_3 rfl rfl ?_
  refine J_callV (pc := 4) (M := mL_share) (as := [.int p0, .int p1]) dL_share_4 fw_X6_share fl_L_139 fm_X6_share fe_X6_share h0 (by decide) rfl rfl rfl (uu_share hs (d := d - 1) (by omega) hI p0 p1 (kc := 2) (ks := 12) (Nat.le_refl _) (Nat.le_refl _)) (by omega) hkc hks (st := [.ref o]) (Nat.le_of_ble_eq_true rfl) rfl (kr_X (kr_I fun v w1 _ hI1 => ?_)) (kx_X fun E w1 hx => ?_)
  · refine J_i2l (pc := 7) dL_share_7 (J_absL fun y => ?_)
    obtain ⟨_, fs, h24, hl24⟩ := hI1.lo
    refine J_putN (pc := 8) (k := 0) dL_share_8 kC8 (by decide) ff_L_13 rfl rfl h24 (by omega) (fun w2 hln2 hw2 hne2 => ?_)
    refine J_goto (pc := 11) (tgt := 22) dL_share_11 (by decide) ?_
    refine J_iconst (pc := 22) (v := nI 0) dL_share_22 (by decide) ?_
    exact J_iret (pc := 23) dL_share_23 rfl ⟨trivial, hI1.out hl24 hw2 hne2⟩
  · obtain ⟨hE, hI1⟩ := hx
    rcases hE with rfl | rfl
    · exact JX_catch1 rfl (by decide) (by decide) fc_L_25 fcast_IndexOutOfBoundsException (Or.inr ⟨4, dL_share_14, by decide, 1, dL_share_16, rfl, dL_share_17⟩) rfl ⟨trivial, hI1⟩
    · exact JX_catch2 rfl (by decide) fc_L_25 (List.mem_singleton.mpr rfl) (by decide) (by decide) fc_L_19 fcast_IllegalArgumentException (Or.inr ⟨4, dL_share_18, by decide, 2, dL_share_20, rfl, dL_share_21⟩) rfl ⟨trivial, hI1⟩
set_option maxRecDepth 100000 in
set_option maxHeartbeats 4000000 in
theorem c_L_together {X : jX} (hs : X.1.stackTraces = false) {d : Nat} (hd : 42 ≤ d) {o : Nat} {S S' : StX} {w : List jC} (hI : LI o S S' w) (p0 : Int32) (p1 : Int32) (p2 : Int32) {kc ks : Nat} (hkc : 3 ≤ kc) (hks : 18 ≤ ks) : jMet X mL_together d kc ks [.ref 0, .int p0, .int p1, .int p2, .ref o] w (pI (fun _ => True) (LI o S S')) := by
  refine jMet_of hs (by decide +kernel) (Nat.le_of_ble_eq_true rfl) (L := [some (.ref 0), some (.int p0), some (.int p1), some (.int p2), some (.ref o), none]) rfl ?_
  obtain ⟨f0, h0⟩ := hI.c0
  refine J_aload (pc := 0) dL_together_0 rfl rfl ?_
  refine J_aload_n (pc := 2) dL_together_2 rfl rfl rfl ?_
  refine J_iload_n (pc := 3) dL_together_3 rfl rfl ?_
  refine J_iload_n (pc := 4) dL_together_4 rfl rfl ?_
  refine J_iload_n (pc := 5) dL_together_5 rfl rfl ?_
  refine J_callV (pc := 6) (M := mL_together) (as := [.int p0, .int p1, .int p2]) dL_together_6 fw_X6_together fl_L_142 fm_X6_together fe_X6_together h0 (by decide) rfl rfl rfl (uu_together hs (d := d - 1) (by omega) hI p0 p1 p2 (kc := 3) (ks := 18) (Nat.le_refl _) (Nat.le_refl _)) (by omega) hkc hks (st := [.ref o]) (Nat.le_of_ble_eq_true rfl) rfl (kr_X (kr_I fun v w1 _ hI1 => ?_)) (kx_X fun E w1 hx => ?_)
  · refine J_i2l (pc := 9) dL_together_9 (J_absL fun y => ?_)
    obtain ⟨_, fs, h24, hl24⟩ := hI1.lo
    refine J_putN (pc := 10) (k := 0) dL_together_10 kC8 (by decide) ff_L_13 rfl rfl h24 (by omega) (fun w2 hln2 hw2 hne2 => ?_)
    refine J_goto (pc := 13) (tgt := 24) dL_together_13 (by decide) ?_
    refine J_iconst (pc := 24) (v := nI 0) dL_together_24 (by decide) ?_
    exact J_iret (pc := 25) dL_together_25 rfl ⟨trivial, hI1.out hl24 hw2 hne2⟩
  · obtain ⟨hE, hI1⟩ := hx
    rcases hE with rfl | rfl
    · exact JX_catch1 rfl (by decide) (by decide) fc_L_25 fcast_IndexOutOfBoundsException (Or.inr ⟨5, dL_together_16, by decide, 1, dL_together_18, rfl, dL_together_19⟩) rfl ⟨trivial, hI1⟩
    · exact JX_catch2 rfl (by decide) fc_L_25 (List.mem_singleton.mpr rfl) (by decide) (by decide) fc_L_19 fcast_IllegalArgumentException (Or.inr ⟨5, dL_together_20, by decide, 2, dL_together_22, rfl, dL_together_23⟩) rfl ⟨trivial, hI1⟩
set_option maxRecDepth 100000 in
set_option maxHeartbeats 4000000 in
theorem c_L_blocks {X : jX} (hs : X.1.stackTraces = false) {d : Nat} (hd : 42 ≤ d) {o : Nat} {S S' : StX} {w : List jC} (hI : LI o S S' w) (p0 : Int32) (p1 : Int32) (p2 : Int32) {kc ks : Nat} (hkc : 3 ≤ kc) (hks : 18 ≤ ks) : jMet X mL_blocks d kc ks [.ref 0, .int p0, .int p1, .int p2, .ref o] w (pI (fun _ => True) (LI o S S')) := by
  refine jMet_of hs (by decide +kernel) (Nat.le_of_ble_eq_true rfl) (L := [some (.ref 0), some (.int p0), some (.int p1), some (.int p2), some (.ref o), none]) rfl ?_
  obtain ⟨f0, h0⟩ := hI.c0
  refine J_aload (pc := 0) dL_blocks_0 rfl rfl ?_
  refine J_aload_n (pc := 2) dL_blocks_2 rfl rfl rfl ?_
  refine J_iload_n (pc := 3) dL_blocks_3 rfl rfl ?_
  refine J_iload_n (pc := 4) dL_blocks_4 rfl rfl ?_
  refine J_iload_n (pc := 5) dL_blocks_5 rfl rfl ?_
  refine J_callV (pc := 6) (M := mL_blocks) (as := [.int p0, .int p1, .int p2]) dL_blocks_6 fw_X6_blocks fl_L_145 fm_X6_blocks fe_X6_blocks h0 (by decide) rfl rfl rfl (uu_blocks hs (d := d - 1) (by omega) hI p0 p1 p2 (kc := 3) (ks := 18) (Nat.le_refl _) (Nat.le_refl _)) (by omega) hkc hks (st := [.ref o]) (Nat.le_of_ble_eq_true rfl) rfl (kr_X (kr_I fun v w1 _ hI1 => ?_)) (kx_X fun E w1 hx => ?_)
  · refine J_i2l (pc := 9) dL_blocks_9 (J_absL fun y => ?_)
    obtain ⟨_, fs, h24, hl24⟩ := hI1.lo
    refine J_putN (pc := 10) (k := 0) dL_blocks_10 kC8 (by decide) ff_L_13 rfl rfl h24 (by omega) (fun w2 hln2 hw2 hne2 => ?_)
    refine J_goto (pc := 13) (tgt := 24) dL_blocks_13 (by decide) ?_
    refine J_iconst (pc := 24) (v := nI 0) dL_blocks_24 (by decide) ?_
    exact J_iret (pc := 25) dL_blocks_25 rfl ⟨trivial, hI1.out hl24 hw2 hne2⟩
  · obtain ⟨hE, hI1⟩ := hx
    rcases hE with rfl | rfl
    · exact JX_catch1 rfl (by decide) (by decide) fc_L_25 fcast_IndexOutOfBoundsException (Or.inr ⟨5, dL_blocks_16, by decide, 1, dL_blocks_18, rfl, dL_blocks_19⟩) rfl ⟨trivial, hI1⟩
    · exact JX_catch2 rfl (by decide) fc_L_25 (List.mem_singleton.mpr rfl) (by decide) (by decide) fc_L_19 fcast_IllegalArgumentException (Or.inr ⟨5, dL_blocks_20, by decide, 2, dL_blocks_22, rfl, dL_blocks_23⟩) rfl ⟨trivial, hI1⟩
set_option maxRecDepth 100000 in
set_option maxHeartbeats 4000000 in
theorem c_L_isTwofold {X : jX} (hs : X.1.stackTraces = false) {d : Nat} (hd : 42 ≤ d) {o : Nat} {S S' : StX} {w : List jC} (hI : LI o S S' w) (p0 : Int32) {kc ks : Nat} (hkc : 1 ≤ kc) (hks : 6 ≤ ks) : jMet X mL_isTwofold d kc ks [.ref 0, .int p0, .ref o] w (pI (fun _ => True) (LI o S S')) := by
  refine jMet_of hs (by decide +kernel) (Nat.le_of_ble_eq_true rfl) (L := [some (.ref 0), some (.int p0), some (.ref o), none]) rfl ?_
  obtain ⟨f0, h0⟩ := hI.c0
  refine J_aload_n (pc := 0) dL_isTwofold_0 rfl rfl rfl ?_
  refine J_aload_n (pc := 1) dL_isTwofold_1 rfl rfl rfl ?_
  refine J_iload_n (pc := 2) dL_isTwofold_2 rfl rfl ?_
  refine J_callV (pc := 3) (M := mL_isTwofold) (as := [.int p0]) dL_isTwofold_3 fw_X6_isTwofold fl_L_148 fm_X6_isTwofold fe_X6_isTwofold h0 (by decide) rfl rfl rfl (uu_isTwofold hs (d := d - 1) (by omega) hI p0 (kc := 1) (ks := 6) (Nat.le_refl _) (Nat.le_refl _)) (by omega) hkc hks (st := [.ref o]) (Nat.le_of_ble_eq_true rfl) rfl (kr_X (kr_I fun v w1 _ hI1 => ?_)) (kx_X fun E w1 hx => ?_)
  · refine J_if_eq (pc := 6) (tgt := 13) dL_isTwofold_6 (by decide) (fun _ => ?_) (fun _ => ?_)
    · refine J_lconst (pc := 13) dL_isTwofold_13 rfl (J_absL fun y => ?_)
      obtain ⟨_, fs, h24, hl24⟩ := hI1.lo
      refine J_putN (pc := 14) (k := 0) dL_isTwofold_14 kC8 (by decide) ff_L_13 rfl rfl h24 (by omega) (fun w2 hln2 hw2 hne2 => ?_)
      refine J_goto (pc := 17) (tgt := 23) dL_isTwofold_17 (by decide) ?_
      refine J_iconst (pc := 23) (v := nI 0) dL_isTwofold_23 (by decide) ?_
      exact J_iret (pc := 24) dL_isTwofold_24 rfl ⟨trivial, hI1.out hl24 hw2 hne2⟩
    · refine J_lconst (pc := 9) dL_isTwofold_9 rfl (J_absL fun y => ?_)
      refine J_goto (pc := 10) (tgt := 14) dL_isTwofold_10 (by decide) ?_
      obtain ⟨_, fs, h24, hl24⟩ := hI1.lo
      refine J_putN (pc := 14) (k := 0) dL_isTwofold_14 kC8 (by decide) ff_L_13 rfl rfl h24 (by omega) (fun w2 hln2 hw2 hne2 => ?_)
      refine J_goto (pc := 17) (tgt := 23) dL_isTwofold_17 (by decide) ?_
      refine J_iconst (pc := 23) (v := nI 0) dL_isTwofold_23 (by decide) ?_
      exact J_iret (pc := 24) dL_isTwofold_24 rfl ⟨trivial, hI1.out hl24 hw2 hne2⟩
  · obtain ⟨hE, hI1⟩ := hx
    subst hE
    exact JX_catch1 rfl (by decide) (by decide) fc_L_19 fcast_IllegalArgumentException (Or.inl ⟨3, dL_isTwofold_20, by decide, 1, dL_isTwofold_21, rfl, dL_isTwofold_22⟩) rfl ⟨trivial, hI1⟩
set_option maxRecDepth 100000 in
set_option maxHeartbeats 4000000 in
theorem c_L_enough {X : jX} (hs : X.1.stackTraces = false) {d : Nat} (hd : 42 ≤ d) {o : Nat} {S S' : StX} {w : List jC} (hI : LI o S S' w) (p0 : Int32) {kc ks : Nat} (hkc : 1 ≤ kc) (hks : 6 ≤ ks) : jMet X mL_enough d kc ks [.ref 0, .int p0, .ref o] w (pI (fun _ => True) (LI o S S')) := by
  refine jMet_of hs (by decide +kernel) (Nat.le_of_ble_eq_true rfl) (L := [some (.ref 0), some (.int p0), some (.ref o), none]) rfl ?_
  obtain ⟨f0, h0⟩ := hI.c0
  refine J_aload_n (pc := 0) dL_enough_0 rfl rfl rfl ?_
  refine J_aload_n (pc := 1) dL_enough_1 rfl rfl rfl ?_
  refine J_iload_n (pc := 2) dL_enough_2 rfl rfl ?_
  refine J_callV (pc := 3) (M := mL_enough) (as := [.int p0]) dL_enough_3 fw_X6_enough fl_L_152 fm_X6_enough fe_X6_enough h0 (by decide) rfl rfl rfl (uu_enough hs (d := d - 1) (by omega) hI p0 (kc := 1) (ks := 6) (Nat.le_refl _) (Nat.le_refl _)) (by omega) hkc hks (st := [.ref o]) (Nat.le_of_ble_eq_true rfl) rfl (kr_X (kr_I fun v w1 _ hI1 => ?_)) (kx_X fun E w1 hx => ?_)
  · refine J_i2l (pc := 6) dL_enough_6 (J_absL fun y => ?_)
    obtain ⟨_, fs, h24, hl24⟩ := hI1.lo
    refine J_putN (pc := 7) (k := 0) dL_enough_7 kC8 (by decide) ff_L_13 rfl rfl h24 (by omega) (fun w2 hln2 hw2 hne2 => ?_)
    refine J_goto (pc := 10) (tgt := 16) dL_enough_10 (by decide) ?_
    refine J_iconst (pc := 16) (v := nI 0) dL_enough_16 (by decide) ?_
    exact J_iret (pc := 17) dL_enough_17 rfl ⟨trivial, hI1.out hl24 hw2 hne2⟩
  · obtain ⟨hE, hI1⟩ := hx
    subst hE
    exact JX_catch1 rfl (by decide) (by decide) fc_L_19 fcast_IllegalArgumentException (Or.inl ⟨3, dL_enough_13, by decide, 1, dL_enough_14, rfl, dL_enough_15⟩) rfl ⟨trivial, hI1⟩
set_option maxRecDepth 100000 in
set_option maxHeartbeats 4000000 in
theorem c_L_house {X : jX} (hs : X.1.stackTraces = false) {d : Nat} (hd : 42 ≤ d) {o : Nat} {S S' : StX} {w : List jC} (hI : LI o S S' w) (p0 : Int32) {kc ks : Nat} (hkc : 1 ≤ kc) (hks : 6 ≤ ks) : jMet X mL_house d kc ks [.ref 0, .int p0, .ref o] w (pJ (fun v w' => ∃ (k : Nat) (x : Int32) (S2 : StX), AG (isN p0 3) (True) (Dhouse S p0) S k x S2 ∧ v = nI k ∧ LI o S2 S' w' ∧ (k = 0 → ∃ s, w'[o]? = some (.inr (8, [.long x.toInt64, s]))))) := by
  refine jMet_of hs (by decide +kernel) (Nat.le_of_ble_eq_true rfl) (L := [some (.ref 0), some (.int p0), some (.ref o), none]) rfl ?_
  obtain ⟨f0, h0⟩ := hI.c0
  refine J_aload_n (pc := 0) dL_house_0 rfl rfl rfl ?_
  refine J_aload_n (pc := 1) dL_house_1 rfl rfl rfl ?_
  refine J_iload_n (pc := 2) dL_house_2 rfl rfl ?_
  refine J_callV (pc := 3) (M := mL_house) (as := [.int p0]) dL_house_3 fw_X6_house fl_L_155 fm_X6_house fe_X6_house h0 (by decide) rfl rfl rfl (uu_house hs (d := d - 1) (by omega) hI p0 (kc := 1) (ks := 6) (Nat.le_refl _) (Nat.le_refl _)) (by omega) hkc hks (st := [.ref o]) (Nat.le_of_ble_eq_true rfl) rfl (kr_X (kr_J fun v w1 hI1 => ?_)) (kx_X fun E w1 hx => ?_)
  · obtain ⟨S2, hA, hI1⟩ := hI1
    refine J_i2l (pc := 6) dL_house_6 ?_
    obtain ⟨_, fs, h24, hl24⟩ := hI1.lo
    obtain ⟨f1, f2, rfl⟩ := two hl24
    refine J_putN (pc := 7) (k := 0) dL_house_7 kC8 (by decide) ff_L_13 rfl rfl h24 (by decide : (0 : Nat) < 2) (fun w2 hln2 hw2 hne2 => ?_)
    refine J_goto (pc := 10) (tgt := 16) dL_house_10 (by decide) ?_
    refine J_iconst (pc := 16) (v := nI 0) dL_house_16 (by decide) ?_
    exact J_iret (pc := 17) dL_house_17 rfl ⟨0, v, S2, hA, rfl, hI1.out hl24 hw2 hne2, fun _ => ⟨f2, hw2⟩⟩
  · obtain ⟨hE, hI1⟩ := hx
    obtain ⟨hE, hA⟩ := hE
    subst hE
    exact JX_catch1 rfl (by decide) (by decide) fc_L_19 fcast_IllegalArgumentException (Or.inl ⟨3, dL_house_13, by decide, 1, dL_house_14, rfl, dL_house_15⟩) rfl ⟨1, 0, S, hA, rfl, hI1, fun h => absurd h (by decide)⟩
end
