/-! contracts: 20.xa -/
set_option maxRecDepth 100000 in
set_option maxHeartbeats 4000000 in
theorem c_X6_has {X : jX} (hs : X.1.stackTraces = false) {d : Nat} (hd : 0 ≤ d) {w : List jC} (a : Int32) (b : Int32) {kc ks : Nat} : jMet X mX6_has d kc ks [.int a, .int b] w (pI (fun v => ∃ k : Nat, v = nI k ∧ k < 2) (fun w' => w' = w)) := by
  refine jMet_of hs (by decide +kernel) (Nat.le_of_ble_eq_true rfl) (L := [some (.int a), some (.int b)]) rfl ?_
  refine J_iload_n (pc := 0) dX6_has_0 rfl rfl ?_
  refine J_iload_n (pc := 1) dX6_has_1 rfl rfl ?_
  refine J_ishr (pc := 2) dX6_has_2 (J_absI fun x1 => ?_)
  refine J_iconst (pc := 3) (v := nI 1) dX6_has_3 (by decide) ?_
  refine J_iand (pc := 4) dX6_has_4 (J_andE 1 1 (by decide) fun k2 hk2 => ?_)
  refine J_iconst (pc := 5) (v := nI 1) dX6_has_5 (by decide) ?_
  refine J_icmp_neN (pc := 6) (tgt := 13) dX6_has_6 (by decide) (by omega) (by omega) (fun ht3 => ?_) (fun hf4 => ?_)
  · refine J_iconst (pc := 13) (v := nI 0) dX6_has_13 (by decide) ?_
    exact J_zret (pc := 14) dX6_has_14 rfl (nar_b (by omega)) ⟨⟨0, rfl, by omega⟩, rfl⟩
  · refine J_iconst (pc := 9) (v := nI 1) dX6_has_9 (by decide) ?_
    refine J_goto (pc := 10) (tgt := 14) dX6_has_10 (by decide) ?_
    exact J_zret (pc := 14) dX6_has_14 rfl (nar_b (by omega)) ⟨⟨1, rfl, by omega⟩, rfl⟩
set_option maxRecDepth 100000 in
set_option maxHeartbeats 4000000 in
theorem c_X6_quotient {X : jX} (hs : X.1.stackTraces = false) {d : Nat} (hd : 0 ≤ d) {w : List jC} (a : Int32) (b : Int32) {kc ks : Nat} : jMet X mX6_quotient d kc ks [.int a, .int b] w (pI (fun _ => True) (fun w' => w' = w)) := by
  refine jMet_of hs (by decide +kernel) (Nat.le_of_ble_eq_true rfl) (L := [some (.int a), some (.int b)]) rfl ?_
  refine J_iload_n (pc := 0) dX6_quotient_0 rfl rfl ?_
  refine J_iconst (pc := 1) (v := nI 1) dX6_quotient_1 (by decide) ?_
  refine J_icmp_ge (pc := 2) (tgt := 9) dX6_quotient_2 (by decide) (fun ht1 => ?_) (fun hf2 => ?_)
  · refine J_iload_n (pc := 9) dX6_quotient_9 rfl rfl ?_
    refine J_iload_n (pc := 10) dX6_quotient_10 rfl rfl ?_
    refine J_idiv (pc := 11) dX6_quotient_11 (by first | assumption | exact nz1 (by assumption) | exact nz1' (by assumption)) (J_absI fun x3 => ?_)
    exact J_iret (pc := 12) dX6_quotient_12 rfl ⟨trivial, rfl⟩
  · refine J_iconst (pc := 5) (v := nI 0) dX6_quotient_5 (by decide) ?_
    refine J_goto (pc := 6) (tgt := 12) dX6_quotient_6 (by decide) ?_
    exact J_iret (pc := 12) dX6_quotient_12 rfl ⟨trivial, rfl⟩
set_option maxRecDepth 100000 in
set_option maxHeartbeats 4000000 in
theorem c_X6_divides {X : jX} (hs : X.1.stackTraces = false) {d : Nat} (hd : 0 ≤ d) {w : List jC} (a : Int32) (b : Int32) {kc ks : Nat} : jMet X mX6_divides d kc ks [.int a, .int b] w (pI (fun v => ∃ k : Nat, v = nI k ∧ k < 2) (fun w' => w' = w)) := by
  refine jMet_of hs (by decide +kernel) (Nat.le_of_ble_eq_true rfl) (L := [some (.int a), some (.int b)]) rfl ?_
  refine J_iload_n (pc := 0) dX6_divides_0 rfl rfl ?_
  refine J_iconst (pc := 1) (v := nI 1) dX6_divides_1 (by decide) ?_
  refine J_icmp_lt (pc := 2) (tgt := 15) dX6_divides_2 (by decide) (fun ht1 => ?_) (fun hf2 => ?_)
  · refine J_iconst (pc := 15) (v := nI 0) dX6_divides_15 (by decide) ?_
    exact J_zret (pc := 16) dX6_divides_16 rfl (nar_b (by omega)) ⟨⟨0, rfl, by omega⟩, rfl⟩
  · refine J_iload_n (pc := 5) dX6_divides_5 rfl rfl ?_
    refine J_iload_n (pc := 6) dX6_divides_6 rfl rfl ?_
    refine J_irem (pc := 7) dX6_divides_7 (by first | assumption | exact nz1 (by assumption) | exact nz1' (by assumption)) (J_absI fun x3 => ?_)
    refine J_if_ne (pc := 8) (tgt := 15) dX6_divides_8 (by decide) (fun ht4 => ?_) (fun hf5 => ?_)
    · refine J_iconst (pc := 15) (v := nI 0) dX6_divides_15 (by decide) ?_
      exact J_zret (pc := 16) dX6_divides_16 rfl (nar_b (by omega)) ⟨⟨0, rfl, by omega⟩, rfl⟩
    · refine J_iconst (pc := 11) (v := nI 1) dX6_divides_11 (by decide) ?_
      refine J_goto (pc := 12) (tgt := 16) dX6_divides_12 (by decide) ?_
      exact J_zret (pc := 16) dX6_divides_16 rfl (nar_b (by omega)) ⟨⟨1, rfl, by omega⟩, rfl⟩
set_option maxRecDepth 100000 in
set_option maxHeartbeats 4000000 in
theorem c_X6_mix {X : jX} (hs : X.1.stackTraces = false) {d : Nat} (hd : 0 ≤ d) {w : List jC} (a : Int64) (b : Int64) {kc ks : Nat} : jMet X mX6_mix d kc ks [.long a, .long b] w (pL (fun _ => True) (fun w' => w' = w)) := by
  refine jMet_of hs (by decide +kernel) (Nat.le_of_ble_eq_true rfl) (L := [some (.long a), none, some (.long b), none]) rfl ?_
  refine J_lload_n (pc := 0) dX6_mix_0 rfl rfl ?_
  refine J_ldc2 (pc := 1) dX6_mix_1 fk_X6_309 (J_absL fun y1 => ?_)
  refine J_lmul (pc := 4) dX6_mix_4 (J_absL fun y2 => ?_)
  refine J_lload_n (pc := 5) dX6_mix_5 rfl rfl ?_
  refine J_ladd (pc := 6) dX6_mix_6 (J_absL fun y3 => ?_)
  exact J_lret (pc := 7) dX6_mix_7 rfl ⟨trivial, rfl⟩
set_option maxRecDepth 100000 in
set_option maxHeartbeats 4000000 in
theorem c_X2_goal {X : jX} (hs : X.1.stackTraces = false) {d : Nat} (hd : 0 ≤ d) {w : List jC} (a : Int32) (b : Int32) {kc ks : Nat} : jMet X mX2_goal d kc ks [.int a, .int b] w (pI (fun v => ∃ k : Nat, v = nI k ∧ k < 8) (fun w' => w' = w)) := by
  refine jMet_of hs (by decide +kernel) (Nat.le_of_ble_eq_true rfl) (L := [some (.int a), some (.int b)]) rfl ?_
  refine J_iload_n (pc := 0) dX2_goal_0 rfl rfl ?_
  refine J_iconst (pc := 1) (v := nI 3) dX2_goal_1 (by decide) ?_
  refine J_iload_n (pc := 2) dX2_goal_2 rfl rfl ?_
  refine J_imul (pc := 3) dX2_goal_3 (J_absI fun x1 => ?_)
  refine J_ishr (pc := 4) dX2_goal_4 (J_absI fun x2 => ?_)
  refine J_bipush (pc := 5) (v := nI 7) dX2_goal_5 (by decide) ?_
  refine J_iand (pc := 7) dX2_goal_7 (J_andE 3 7 (by decide) fun k3 hk3 => ?_)
  exact J_iret (pc := 8) dX2_goal_8 rfl ⟨⟨k3, rfl, by omega⟩, rfl⟩
set_option maxRecDepth 100000 in
set_option maxHeartbeats 4000000 in
theorem c_X2_with {X : jX} (hs : X.1.stackTraces = false) {d : Nat} (hd : 0 ≤ d) {w : List jC} (a : Int32) (b : Int32) (c : Int32) {kc ks : Nat} : jMet X mX2_with d kc ks [.int a, .int b, .int c] w (pI (fun _ => True) (fun w' => w' = w)) := by
  refine jMet_of hs (by decide +kernel) (Nat.le_of_ble_eq_true rfl) (L := [some (.int a), some (.int b), some (.int c)]) rfl ?_
  refine J_iload_n (pc := 0) dX2_with_0 rfl rfl ?_
  refine J_bipush (pc := 1) (v := nI 7) dX2_with_1 (by decide) ?_
  refine J_iconst (pc := 3) (v := nI 3) dX2_with_3 (by decide) ?_
  refine J_iload_n (pc := 4) dX2_with_4 rfl rfl ?_
  refine J_imul (pc := 5) dX2_with_5 (J_absI fun x1 => ?_)
  refine J_ishl (pc := 6) dX2_with_6 (J_absI fun x2 => ?_)
  refine J_iconst (pc := 7) (v := (-1)) dX2_with_7 (by decide) ?_
  refine J_ixor (pc := 8) dX2_with_8 (J_absI fun x3 => ?_)
  refine J_iand (pc := 9) dX2_with_9 (J_absI fun x4 => ?_)
  refine J_iload_n (pc := 10) dX2_with_10 rfl rfl ?_
  refine J_iconst (pc := 11) (v := nI 3) dX2_with_11 (by decide) ?_
  refine J_iload_n (pc := 12) dX2_with_12 rfl rfl ?_
  refine J_imul (pc := 13) dX2_with_13 (J_absI fun x5 => ?_)
  refine J_ishl (pc := 14) dX2_with_14 (J_absI fun x6 => ?_)
  refine J_ior (pc := 15) dX2_with_15 (J_absI fun x7 => ?_)
  exact J_iret (pc := 16) dX2_with_16 rfl ⟨trivial, rfl⟩
set_option maxRecDepth 100000 in
set_option maxHeartbeats 4000000 in
theorem c_X2_both {X : jX} (hs : X.1.stackTraces = false) {d : Nat} (hd : 0 ≤ d) {w : List jC} (a : Int32) (b : Int32) {kc ks : Nat} : jMet X mX2_both d kc ks [.int a, .int b] w (pI (fun _ => True) (fun w' => w' = w)) := by
  refine jMet_of hs (by decide +kernel) (Nat.le_of_ble_eq_true rfl) (L := [some (.int a), some (.int b), none, none]) rfl ?_
  refine J_iconst (pc := 0) (v := nI 0) dX2_both_0 (by decide) ?_
  refine J_istore_n (pc := 1) dX2_both_1 rfl (by decide) rfl ?_
  show J X mX2_both d kc ks 2 [some (.int a), some (.int b), some (.int (nI 0)), none] [] w _
  refine J_iconst (pc := 2) (v := nI 0) dX2_both_2 (by decide) ?_
  refine J_istore_n (pc := 3) dX2_both_3 rfl (by decide) rfl ?_
  show J X mX2_both d kc ks 4 [some (.int a), some (.int b), some (.int (nI 0)), some (.int (nI 0))] [] w _
  have lp4_1 : ∀ (fuel : Nat) (z2 : Int32) (c3 : Nat), c3 < 2147483648 → 21 - c3 < fuel → J X mX2_both d kc ks 4 [some (.int a), some (.int b), some (.int z2), some (.int (nI c3))] [] w (pI (fun _ => True) (fun w' => w' = w)) := by
    intro fuel
    induction fuel with
    | zero => intros; omega
    | succ fuel ih =>
      intro z2 c3 hi2 hf3
      refine J_iload_n (pc := 4) dX2_both_4 rfl rfl ?_
      refine J_bipush (pc := 5) (v := nI 21) dX2_both_5 (by decide) ?_
      refine J_icmp_geN (pc := 7) (tgt := 34) dX2_both_7 (by decide) (by omega) (by omega) (fun ht4 => ?_) (fun hf5 => ?_)
      · refine J_iload_n (pc := 34) dX2_both_34 rfl rfl ?_
        exact J_iret (pc := 35) dX2_both_35 rfl ⟨trivial, rfl⟩
      · refine J_iload_n (pc := 10) dX2_both_10 rfl rfl ?_
        refine J_iload_n (pc := 11) dX2_both_11 rfl rfl ?_
        refine J_iconst (pc := 12) (v := nI 3) dX2_both_12 (by decide) ?_
        refine J_iload_n (pc := 13) dX2_both_13 rfl rfl ?_
        refine J_iload_n (pc := 14) dX2_both_14 rfl rfl ?_
        refine J_ishr (pc := 15) dX2_both_15 (J_absI fun x6 => ?_)
        refine J_bipush (pc := 16) (v := nI 7) dX2_both_16 (by decide) ?_
        refine J_iand (pc := 18) dX2_both_18 (J_andE 3 7 (by decide) fun k7 hk7 => ?_)
        refine J_imulN (pc := 19) dX2_both_19 ?_
        refine J_ishr (pc := 20) dX2_both_20 (J_absI fun x8 => ?_)
        refine J_bipush (pc := 21) (v := nI 7) dX2_both_21 (by decide) ?_
        refine J_iand (pc := 23) dX2_both_23 (J_andE 3 7 (by decide) fun k9 hk9 => ?_)
        refine J_iload_n (pc := 24) dX2_both_24 rfl rfl ?_
        refine J_ishl (pc := 25) dX2_both_25 (J_absI fun x10 => ?_)
        refine J_ior (pc := 26) dX2_both_26 (J_absI fun x11 => ?_)
        refine J_istore_n (pc := 27) dX2_both_27 rfl (by decide) rfl ?_
        show J X mX2_both d kc ks 28 [some (.int a), some (.int b), some (.int x11), some (.int (nI c3))] [] w _
        refine J_iincN (pc := 28) (b := 3) dX2_both_28 rfl (by decide) (by decide) rfl ?_
        show J X mX2_both d kc ks 31 [some (.int a), some (.int b), some (.int x11), some (.int (nI (c3 + 3)))] [] w _
        refine J_goto (pc := 31) (tgt := 4) dX2_both_31 (by decide) ?_
        exact J_sub ⟨rfl, ⟨rfl, ⟨rfl, ⟨rfl, trivial⟩⟩⟩⟩ (ih x11 (c3 + 3) (by first | assumption | omega) (by omega))
  exact J_sub ⟨rfl, ⟨rfl, ⟨rfl, ⟨rfl, trivial⟩⟩⟩⟩ (lp4_1 _ (nI 0) 0 (by first | assumption | omega) (Nat.lt_succ_self _))
set_option maxRecDepth 100000 in
set_option maxHeartbeats 4000000 in
theorem c_X2_undone {X : jX} (hs : X.1.stackTraces = false) {d : Nat} (hd : 0 ≤ d) {w : List jC} (a : Int32) {kc ks : Nat} : jMet X mX2_undone d kc ks [.int a] w (pI (fun _ => True) (fun w' => w' = w)) := by
  refine jMet_of hs (by decide +kernel) (Nat.le_of_ble_eq_true rfl) (L := [some (.int a), none, none]) rfl ?_
  refine J_iconst (pc := 0) (v := nI 0) dX2_undone_0 (by decide) ?_
  refine J_istore_n (pc := 1) dX2_undone_1 rfl (by decide) rfl ?_
  show J X mX2_undone d kc ks 2 [some (.int a), some (.int (nI 0)), none] [] w _
  refine J_iconst (pc := 2) (v := nI 0) dX2_undone_2 (by decide) ?_
  refine J_istore_n (pc := 3) dX2_undone_3 rfl (by decide) rfl ?_
  show J X mX2_undone d kc ks 4 [some (.int a), some (.int (nI 0)), some (.int (nI 0))] [] w _
  have lp4_1 : ∀ (fuel : Nat) (z1 : Int32) (c2 : Nat), c2 < 2147483648 → 7 - c2 < fuel → J X mX2_undone d kc ks 4 [some (.int a), some (.int z1), some (.int (nI c2))] [] w (pI (fun _ => True) (fun w' => w' = w)) := by
    intro fuel
    induction fuel with
    | zero => intros; omega
    | succ fuel ih =>
      intro z1 c2 hi2 hf3
      refine J_iload_n (pc := 4) dX2_undone_4 rfl rfl ?_
      refine J_bipush (pc := 5) (v := nI 7) dX2_undone_5 (by decide) ?_
      refine J_icmp_geN (pc := 7) (tgt := 31) dX2_undone_7 (by decide) (by omega) (by omega) (fun ht4 => ?_) (fun hf5 => ?_)
      · refine J_iload_n (pc := 31) dX2_undone_31 rfl rfl ?_
        exact J_iret (pc := 32) dX2_undone_32 rfl ⟨trivial, rfl⟩
      · refine J_iload_n (pc := 10) dX2_undone_10 rfl rfl ?_
        refine J_iload_n (pc := 11) dX2_undone_11 rfl rfl ?_
        refine J_iconst (pc := 12) (v := nI 3) dX2_undone_12 (by decide) ?_
        refine J_iload_n (pc := 13) dX2_undone_13 rfl rfl ?_
        refine J_iconst (pc := 14) (v := nI 3) dX2_undone_14 (by decide) ?_
        refine J_iload_n (pc := 15) dX2_undone_15 rfl rfl ?_
        refine J_imulN (pc := 16) dX2_undone_16 ?_
        refine J_ishr (pc := 17) dX2_undone_17 (J_absI fun x6 => ?_)
        refine J_bipush (pc := 18) (v := nI 7) dX2_undone_18 (by decide) ?_
        refine J_iand (pc := 20) dX2_undone_20 (J_andE 3 7 (by decide) fun k7 hk7 => ?_)
        refine J_imulN (pc := 21) dX2_undone_21 ?_
        refine J_ishl (pc := 22) dX2_undone_22 (J_absI fun x8 => ?_)
        refine J_ior (pc := 23) dX2_undone_23 (J_absI fun x9 => ?_)
        refine J_istore_n (pc := 24) dX2_undone_24 rfl (by decide) rfl ?_
        show J X mX2_undone d kc ks 25 [some (.int a), some (.int x9), some (.int (nI c2))] [] w _
        refine J_iincN (pc := 25) (b := 1) dX2_undone_25 rfl (by decide) (by decide) rfl ?_
        show J X mX2_undone d kc ks 28 [some (.int a), some (.int x9), some (.int (nI (c2 + 1)))] [] w _
        refine J_goto (pc := 28) (tgt := 4) dX2_undone_28 (by decide) ?_
        exact J_sub ⟨rfl, ⟨rfl, ⟨rfl, trivial⟩⟩⟩ (ih x9 (c2 + 1) (by first | assumption | omega) (by omega))
  exact J_sub ⟨rfl, ⟨rfl, ⟨rfl, trivial⟩⟩⟩ (lp4_1 _ (nI 0) 0 (by first | assumption | omega) (Nat.lt_succ_self _))
set_option maxRecDepth 100000 in
set_option maxHeartbeats 4000000 in
theorem c_X2_often {X : jX} (hs : X.1.stackTraces = false) {d : Nat} (hd : 1 ≤ d) {w : List jC} (a : Int32) (t : Nat) (hy0 : t ≤ 1000) {kc ks : Nat} : jMet X mX2_often d kc ks [.int a, .int (nI t)] w (pI (fun _ => True) (fun w' => w' = w)) := by
  refine jMet_of hs (by decide +kernel) (Nat.le_of_ble_eq_true rfl) (L := [some (.int a), some (.int (nI t)), none, none]) rfl ?_
  refine J_ldc (pc := 0) (v := nI 1754760) dX2_often_0 (by have := fk_X2_11; exact this) ?_
  refine J_istore_n (pc := 2) dX2_often_2 rfl (by decide) rfl ?_
  show J X mX2_often d kc ks 3 [some (.int a), some (.int (nI t)), some (.int (nI 1754760)), none] [] w _
  refine J_iconst (pc := 3) (v := nI 0) dX2_often_3 (by decide) ?_
  refine J_istore_n (pc := 4) dX2_often_4 rfl (by decide) rfl ?_
  show J X mX2_often d kc ks 5 [some (.int a), some (.int (nI t)), some (.int (nI 1754760)), some (.int (nI 0))] [] w _
  have lp5_1 : ∀ (fuel : Nat) (z2 : Int32) (c3 : Nat), c3 < 2147483648 → t - c3 < fuel → J X mX2_often d kc ks 5 [some (.int a), some (.int (nI t)), some (.int z2), some (.int (nI c3))] [] w (pI (fun _ => True) (fun w' => w' = w)) := by
    intro fuel
    induction fuel with
    | zero => intros; omega
    | succ fuel ih =>
      intro z2 c3 hi2 hf3
      refine J_iload_n (pc := 5) dX2_often_5 rfl rfl ?_
      refine J_iload_n (pc := 6) dX2_often_6 rfl rfl ?_
      refine J_icmp_geN (pc := 7) (tgt := 22) dX2_often_7 (by decide) (by omega) (by omega) (fun ht4 => ?_) (fun hf5 => ?_)
      · refine J_iload_n (pc := 22) dX2_often_22 rfl rfl ?_
        exact J_iret (pc := 23) dX2_often_23 rfl ⟨trivial, rfl⟩
      · refine J_iload_n (pc := 10) dX2_often_10 rfl rfl ?_
        refine J_iload_n (pc := 11) dX2_often_11 rfl rfl ?_
        refine J_callS0 (pc := 12) (as := [.int z2, .int a]) dX2_often_12 fw_X2_both fl_X2_12 fs_X2_both rfl (c_X2_both hs (d := d - 1) (by omega) (w := w) z2 a (kc := 0) (ks := 0)) (by omega) (st := []) (Nat.le_of_ble_eq_true rfl) rfl (kr_P fun v6 hv6 => ?_) kx_I
        refine J_istore_n (pc := 15) dX2_often_15 rfl (by decide) rfl ?_
        show J X mX2_often d kc ks 16 [some (.int a), some (.int (nI t)), some (.int v6), some (.int (nI c3))] [] w _
        refine J_iincN (pc := 16) (b := 1) dX2_often_16 rfl (by decide) (by decide) rfl ?_
        show J X mX2_often d kc ks 19 [some (.int a), some (.int (nI t)), some (.int v6), some (.int (nI (c3 + 1)))] [] w _
        refine J_goto (pc := 19) (tgt := 5) dX2_often_19 (by decide) ?_
        exact J_sub ⟨rfl, ⟨rfl, ⟨rfl, ⟨rfl, trivial⟩⟩⟩⟩ (ih v6 (c3 + 1) (by first | assumption | omega) (by omega))
  exact J_sub ⟨rfl, ⟨rfl, ⟨rfl, ⟨rfl, trivial⟩⟩⟩⟩ (lp5_1 _ (nI 1754760) 0 (by first | assumption | omega) (Nat.lt_succ_self _))
set_option maxRecDepth 100000 in
set_option maxHeartbeats 4000000 in
theorem c_X2_factorial {X : jX} (hs : X.1.stackTraces = false) {d : Nat} (hd : 0 ≤ d) {w : List jC} (t : Nat) (hy0 : t ≤ 12) {kc ks : Nat} : jMet X mX2_factorial d kc ks [.int (nI t)] w (pI (fun _ => True) (fun w' => w' = w)) := by
  refine jMet_of hs (by decide +kernel) (Nat.le_of_ble_eq_true rfl) (L := [some (.int (nI t)), none, none]) rfl ?_
  refine J_iconst (pc := 0) (v := nI 1) dX2_factorial_0 (by decide) ?_
  refine J_istore_n (pc := 1) dX2_factorial_1 rfl (by decide) rfl ?_
  show J X mX2_factorial d kc ks 2 [some (.int (nI t)), some (.int (nI 1)), none] [] w _
  refine J_iconst (pc := 2) (v := nI 2) dX2_factorial_2 (by decide) ?_
  refine J_istore_n (pc := 3) dX2_factorial_3 rfl (by decide) rfl ?_
  show J X mX2_factorial d kc ks 4 [some (.int (nI t)), some (.int (nI 1)), some (.int (nI 2))] [] w _
  have lp4_1 : ∀ (fuel : Nat) (z1 : Int32) (c2 : Nat), c2 < 2147483648 → t + 1 - c2 < fuel → J X mX2_factorial d kc ks 4 [some (.int (nI t)), some (.int z1), some (.int (nI c2))] [] w (pI (fun _ => True) (fun w' => w' = w)) := by
    intro fuel
    induction fuel with
    | zero => intros; omega
    | succ fuel ih =>
      intro z1 c2 hi2 hf3
      refine J_iload_n (pc := 4) dX2_factorial_4 rfl rfl ?_
      refine J_iload_n (pc := 5) dX2_factorial_5 rfl rfl ?_
      refine J_icmp_gtN (pc := 6) (tgt := 19) dX2_factorial_6 (by decide) (by omega) (by omega) (fun ht4 => ?_) (fun hf5 => ?_)
      · refine J_iload_n (pc := 19) dX2_factorial_19 rfl rfl ?_
        exact J_iret (pc := 20) dX2_factorial_20 rfl ⟨trivial, rfl⟩
      · refine J_iload_n (pc := 9) dX2_factorial_9 rfl rfl ?_
        refine J_iload_n (pc := 10) dX2_factorial_10 rfl rfl ?_
        refine J_imul (pc := 11) dX2_factorial_11 (J_absI fun x6 => ?_)
        refine J_istore_n (pc := 12) dX2_factorial_12 rfl (by decide) rfl ?_
        show J X mX2_factorial d kc ks 13 [some (.int (nI t)), some (.int x6), some (.int (nI c2))] [] w _
        refine J_iincN (pc := 13) (b := 1) dX2_factorial_13 rfl (by decide) (by decide) rfl ?_
        show J X mX2_factorial d kc ks 16 [some (.int (nI t)), some (.int x6), some (.int (nI (c2 + 1)))] [] w _
        refine J_goto (pc := 16) (tgt := 4) dX2_factorial_16 (by decide) ?_
        exact J_sub ⟨rfl, ⟨rfl, ⟨rfl, trivial⟩⟩⟩ (ih x6 (c2 + 1) (by first | assumption | omega) (by omega))
  exact J_sub ⟨rfl, ⟨rfl, ⟨rfl, trivial⟩⟩⟩ (lp4_1 _ (nI 1) 2 (by first | assumption | omega) (Nat.lt_succ_self _))
