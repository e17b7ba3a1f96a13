/-! contracts: 20.xa -/
set_option maxRecDepth 100000 in
set_option maxHeartbeats 4000000 in
theorem c_J6_bitCount_0f7a4 {X : jX} (hs : X.1.stackTraces = false) {d : Nat} (hd : 0 ≤ d) {w : List jC} (a : Int32) {kc ks : Nat} : jMet X mJ6_bitCount_0f7a4 d kc ks [.int a] w (pI (fun v => ∃ k : Nat, v = nI k ∧ k < 64) (fun w' => w' = w)) := by
  refine jMet_of hs (by decide +kernel) (Nat.le_of_ble_eq_true rfl) (L := [some (.int a)]) rfl ?_
  refine J_iload_n (pc := 0) dJ6_bitCount_0f7a4_0 rfl rfl ?_
  refine J_iload_n (pc := 1) dJ6_bitCount_0f7a4_1 rfl rfl ?_
  refine J_iconst (pc := 2) (v := nI 1) dJ6_bitCount_0f7a4_2 (by decide) ?_
  refine J_iushr (pc := 3) dJ6_bitCount_0f7a4_3 (J_absI fun x1 => ?_)
  refine J_ldcw (pc := 4) (v := nI 1431655765) dJ6_bitCount_0f7a4_4 (by have := fk_J6_265; exact this) ?_
  refine J_iand (pc := 7) dJ6_bitCount_0f7a4_7 (J_absI fun x2 => ?_)
  refine J_isub (pc := 8) dJ6_bitCount_0f7a4_8 (J_absI fun x3 => ?_)
  refine J_istore_n (pc := 9) dJ6_bitCount_0f7a4_9 rfl (by decide) rfl ?_
  show J X mJ6_bitCount_0f7a4 d kc ks 10 [some (.int x3)] [] w _
  refine J_iload_n (pc := 10) dJ6_bitCount_0f7a4_10 rfl rfl ?_
  refine J_ldcw (pc := 11) (v := nI 858993459) dJ6_bitCount_0f7a4_11 (by have := fk_J6_266; exact this) ?_
  refine J_iand (pc := 14) dJ6_bitCount_0f7a4_14 (J_absI fun x4 => ?_)
  refine J_iload_n (pc := 15) dJ6_bitCount_0f7a4_15 rfl rfl ?_
  refine J_iconst (pc := 16) (v := nI 2) dJ6_bitCount_0f7a4_16 (by decide) ?_
  refine J_iushr (pc := 17) dJ6_bitCount_0f7a4_17 (J_absI fun x5 => ?_)
  refine J_ldcw (pc := 18) (v := nI 858993459) dJ6_bitCount_0f7a4_18 (by have := fk_J6_266; exact this) ?_
  refine J_iand (pc := 21) dJ6_bitCount_0f7a4_21 (J_absI fun x6 => ?_)
  refine J_iadd (pc := 22) dJ6_bitCount_0f7a4_22 (J_absI fun x7 => ?_)
  refine J_istore_n (pc := 23) dJ6_bitCount_0f7a4_23 rfl (by decide) rfl ?_
  show J X mJ6_bitCount_0f7a4 d kc ks 24 [some (.int x7)] [] w _
  refine J_iload_n (pc := 24) dJ6_bitCount_0f7a4_24 rfl rfl ?_
  refine J_iload_n (pc := 25) dJ6_bitCount_0f7a4_25 rfl rfl ?_
  refine J_iconst (pc := 26) (v := nI 4) dJ6_bitCount_0f7a4_26 (by decide) ?_
  refine J_iushr (pc := 27) dJ6_bitCount_0f7a4_27 (J_absI fun x8 => ?_)
  refine J_iadd (pc := 28) dJ6_bitCount_0f7a4_28 (J_absI fun x9 => ?_)
  refine J_ldcw (pc := 29) (v := nI 252645135) dJ6_bitCount_0f7a4_29 (by have := fk_J6_267; exact this) ?_
  refine J_iand (pc := 32) dJ6_bitCount_0f7a4_32 (J_absI fun x10 => ?_)
  refine J_istore_n (pc := 33) dJ6_bitCount_0f7a4_33 rfl (by decide) rfl ?_
  show J X mJ6_bitCount_0f7a4 d kc ks 34 [some (.int x10)] [] w _
  refine J_iload_n (pc := 34) dJ6_bitCount_0f7a4_34 rfl rfl ?_
  refine J_iload_n (pc := 35) dJ6_bitCount_0f7a4_35 rfl rfl ?_
  refine J_bipush (pc := 36) (v := nI 8) dJ6_bitCount_0f7a4_36 (by decide) ?_
  refine J_iushr (pc := 38) dJ6_bitCount_0f7a4_38 (J_absI fun x11 => ?_)
  refine J_iadd (pc := 39) dJ6_bitCount_0f7a4_39 (J_absI fun x12 => ?_)
  refine J_istore_n (pc := 40) dJ6_bitCount_0f7a4_40 rfl (by decide) rfl ?_
  show J X mJ6_bitCount_0f7a4 d kc ks 41 [some (.int x12)] [] w _
  refine J_iload_n (pc := 41) dJ6_bitCount_0f7a4_41 rfl rfl ?_
  refine J_iload_n (pc := 42) dJ6_bitCount_0f7a4_42 rfl rfl ?_
  refine J_bipush (pc := 43) (v := nI 16) dJ6_bitCount_0f7a4_43 (by decide) ?_
  refine J_iushr (pc := 45) dJ6_bitCount_0f7a4_45 (J_absI fun x13 => ?_)
  refine J_iadd (pc := 46) dJ6_bitCount_0f7a4_46 (J_absI fun x14 => ?_)
  refine J_istore_n (pc := 47) dJ6_bitCount_0f7a4_47 rfl (by decide) rfl ?_
  show J X mJ6_bitCount_0f7a4 d kc ks 48 [some (.int x14)] [] w _
  refine J_iload_n (pc := 48) dJ6_bitCount_0f7a4_48 rfl rfl ?_
  refine J_bipush (pc := 49) (v := nI 63) dJ6_bitCount_0f7a4_49 (by decide) ?_
  refine J_iand (pc := 51) dJ6_bitCount_0f7a4_51 (J_andE 6 63 (by decide) fun k15 hk15 => ?_)
  exact J_iret (pc := 52) dJ6_bitCount_0f7a4_52 rfl ⟨⟨k15, rfl, by omega⟩, rfl⟩
set_option maxRecDepth 100000 in
set_option maxHeartbeats 4000000 in
theorem c_J9_floorMod_7cf53 {X : jX} (hs : X.1.stackTraces = false) {d : Nat} (hd : 0 ≤ d) {w : List jC} (a : Int32) (b : Int32) (hy0 : ¬ b = 0) {kc ks : Nat} : jMet X mJ9_floorMod_7cf53 d kc ks [.int a, .int b] w (pI (fun _ => True) (fun w' => w' = w)) := by
  refine jMet_of hs (by decide +kernel) (Nat.le_of_ble_eq_true rfl) (L := [some (.int a), some (.int b), none]) rfl ?_
  refine J_iload_n (pc := 0) dJ9_floorMod_7cf53_0 rfl rfl ?_
  refine J_iload_n (pc := 1) dJ9_floorMod_7cf53_1 rfl rfl ?_
  refine J_irem (pc := 2) dJ9_floorMod_7cf53_2 (by first | assumption | exact nz1 (by assumption) | exact nz1' (by assumption)) (J_absI fun x1 => ?_)
  refine J_istore_n (pc := 3) dJ9_floorMod_7cf53_3 rfl (by decide) rfl ?_
  show J X mJ9_floorMod_7cf53 d kc ks 4 [some (.int a), some (.int b), some (.int x1)] [] w _
  refine J_iload_n (pc := 4) dJ9_floorMod_7cf53_4 rfl rfl ?_
  refine J_iload_n (pc := 5) dJ9_floorMod_7cf53_5 rfl rfl ?_
  refine J_ixor (pc := 6) dJ9_floorMod_7cf53_6 (J_absI fun x2 => ?_)
  refine J_if_ge (pc := 7) (tgt := 18) dJ9_floorMod_7cf53_7 (by decide) (fun ht3 => ?_) (fun hf4 => ?_)
  · refine J_iload_n (pc := 18) dJ9_floorMod_7cf53_18 rfl rfl ?_
    exact J_iret (pc := 19) dJ9_floorMod_7cf53_19 rfl ⟨trivial, rfl⟩
  · refine J_iload_n (pc := 10) dJ9_floorMod_7cf53_10 rfl rfl ?_
    refine J_if_eq (pc := 11) (tgt := 18) dJ9_floorMod_7cf53_11 (by decide) (fun ht5 => ?_) (fun hf6 => ?_)
    · refine J_iload_n (pc := 18) dJ9_floorMod_7cf53_18 rfl rfl ?_
      exact J_iret (pc := 19) dJ9_floorMod_7cf53_19 rfl ⟨trivial, rfl⟩
    · refine J_iload_n (pc := 14) dJ9_floorMod_7cf53_14 rfl rfl ?_
      refine J_iload_n (pc := 15) dJ9_floorMod_7cf53_15 rfl rfl ?_
      refine J_iadd (pc := 16) dJ9_floorMod_7cf53_16 (J_absI fun x7 => ?_)
      exact J_iret (pc := 17) dJ9_floorMod_7cf53_17 rfl ⟨trivial, rfl⟩
set_option maxRecDepth 100000 in
set_option maxHeartbeats 4000000 in
theorem c_X6_has {X : jX} (hs : X.1.stackTraces = false) {d : Nat} (hd : 0 ≤ d) {w : List jC} (a : Int32) (b : Int32) {kc ks : Nat} : jMet X mX6_has d kc ks [.int a, .int b] w (pI (fun v => ∃ k : Nat, v = nI k ∧ k < 2) (fun w' => w' = w)) := by
  refine jMet_of hs (by decide +kernel) (Nat.le_of_ble_eq_true rfl) (L := [some (.int a), some (.int b)]) rfl ?_
  refine J_iload_n (pc := 0) dX6_has_0 rfl rfl ?_
  refine J_iload_n (pc := 1) dX6_has_1 rfl rfl ?_
  refine J_ishr (pc := 2) dX6_has_2 (J_absI fun x1 => ?_)
  refine J_iconst (pc := 3) (v := nI 1) dX6_has_3 (by decide) ?_
  refine J_iand (pc := 4) dX6_has_4 (J_andE 1 1 (by decide) fun k2 hk2 => ?_)
  refine J_iconst (pc := 5) (v := nI 1) dX6_has_5 (by decide) ?_
  refine J_icmp_neN (pc := 6) (tgt := 13) dX6_has_6 (by decide) (by omega) (by omega) (fun ht3 => ?_) (fun hf4 => ?_)
  · refine J_iconst (pc := 13) (v := nI 0) dX6_has_13 (by decide) ?_
    exact J_zret (pc := 14) dX6_has_14 rfl (nar_b (by omega)) ⟨⟨0, rfl, by omega⟩, rfl⟩
  · refine J_iconst (pc := 9) (v := nI 1) dX6_has_9 (by decide) ?_
    refine J_goto (pc := 10) (tgt := 14) dX6_has_10 (by decide) ?_
    exact J_zret (pc := 14) dX6_has_14 rfl (nar_b (by omega)) ⟨⟨1, rfl, by omega⟩, rfl⟩
set_option maxRecDepth 100000 in
set_option maxHeartbeats 4000000 in
theorem c_X6_howManyBelow {X : jX} (hs : X.1.stackTraces = false) {d : Nat} (hd : 1 ≤ d) {w : List jC} (a : Int32) (b : Int32) {kc ks : Nat} : jMet X mX6_howManyBelow d kc ks [.int a, .int b] w (pI (fun v => ∃ k : Nat, v = nI k ∧ k < 64) (fun w' => w' = w)) := by
  refine jMet_of hs (by decide +kernel) (Nat.le_of_ble_eq_true rfl) (L := [some (.int a), some (.int b)]) rfl ?_
  refine J_iload_n (pc := 0) dX6_howManyBelow_0 rfl rfl ?_
  refine J_iconst (pc := 1) (v := nI 1) dX6_howManyBelow_1 (by decide) ?_
  refine J_iload_n (pc := 2) dX6_howManyBelow_2 rfl rfl ?_
  refine J_ishl (pc := 3) dX6_howManyBelow_3 (J_absI fun x1 => ?_)
  refine J_iconst (pc := 4) (v := nI 1) dX6_howManyBelow_4 (by decide) ?_
  refine J_isub (pc := 5) dX6_howManyBelow_5 (J_absI fun x2 => ?_)
  refine J_iand (pc := 6) dX6_howManyBelow_6 (J_absI fun x3 => ?_)
  refine J_callS0 (pc := 7) (as := [.int x3]) dX6_howManyBelow_7 fw_J6_bitCount_0f7a4 fl_X6_220 fs_J6_bitCount_0f7a4 rfl (c_J6_bitCount_0f7a4 hs (d := d - 1) (by omega) (w := w) x3 (kc := 0) (ks := 0)) (by omega) (st := []) (Nat.le_of_ble_eq_true rfl) rfl (kr_P fun v4 hv4 => ?_) kx_I
  obtain ⟨k4, rfl, hk4⟩ := hv4
  exact J_iret (pc := 10) dX6_howManyBelow_10 rfl ⟨⟨k4, rfl, by omega⟩, rfl⟩
set_option maxRecDepth 100000 in
set_option maxHeartbeats 4000000 in
theorem c_X6_quotient {X : jX} (hs : X.1.stackTraces = false) {d : Nat} (hd : 0 ≤ d) {w : List jC} (a : Int32) (b : Int32) {kc ks : Nat} : jMet X mX6_quotient d kc ks [.int a, .int b] w (pI (fun _ => True) (fun w' => w' = w)) := by
  refine jMet_of hs (by decide +kernel) (Nat.le_of_ble_eq_true rfl) (L := [some (.int a), some (.int b)]) rfl ?_
  refine J_iload_n (pc := 0) dX6_quotient_0 rfl rfl ?_
  refine J_iconst (pc := 1) (v := nI 1) dX6_quotient_1 (by decide) ?_
  refine J_icmp_ge (pc := 2) (tgt := 9) dX6_quotient_2 (by decide) (fun ht1 => ?_) (fun hf2 => ?_)
  · refine J_iload_n (pc := 9) dX6_quotient_9 rfl rfl ?_
    refine J_iload_n (pc := 10) dX6_quotient_10 rfl rfl ?_
    refine J_idiv (pc := 11) dX6_quotient_11 (by first | assumption | exact nz1 (by assumption) | exact nz1' (by assumption)) (J_absI fun x3 => ?_)
    exact J_iret (pc := 12) dX6_quotient_12 rfl ⟨trivial, rfl⟩
  · refine J_iconst (pc := 5) (v := nI 0) dX6_quotient_5 (by decide) ?_
    refine J_goto (pc := 6) (tgt := 12) dX6_quotient_6 (by decide) ?_
    exact J_iret (pc := 12) dX6_quotient_12 rfl ⟨trivial, rfl⟩
set_option maxRecDepth 100000 in
set_option maxHeartbeats 4000000 in
theorem c_X6_remainder {X : jX} (hs : X.1.stackTraces = false) {d : Nat} (hd : 1 ≤ d) {w : List jC} (a : Int32) (b : Int32) {kc ks : Nat} : jMet X mX6_remainder d kc ks [.int a, .int b] w (pI (fun _ => True) (fun w' => w' = w)) := by
  refine jMet_of hs (by decide +kernel) (Nat.le_of_ble_eq_true rfl) (L := [some (.int a), some (.int b)]) rfl ?_
  refine J_iload_n (pc := 0) dX6_remainder_0 rfl rfl ?_
  refine J_iconst (pc := 1) (v := nI 1) dX6_remainder_1 (by decide) ?_
  refine J_icmp_ge (pc := 2) (tgt := 9) dX6_remainder_2 (by decide) (fun ht1 => ?_) (fun hf2 => ?_)
  · refine J_iload_n (pc := 9) dX6_remainder_9 rfl rfl ?_
    refine J_iload_n (pc := 10) dX6_remainder_10 rfl rfl ?_
    refine J_callS0 (pc := 11) (as := [.int a, .int b]) dX6_remainder_11 fw_J9_floorMod_7cf53 fl_X6_311 fs_J9_floorMod_7cf53 rfl (c_J9_floorMod_7cf53 hs (d := d - 1) (by omega) (w := w) a b (by first | assumption | exact nz1 (by assumption) | exact nz1' (by assumption)) (kc := 0) (ks := 0)) (by omega) (st := []) (Nat.le_of_ble_eq_true rfl) rfl (kr_P fun v3 hv3 => ?_) kx_I
    exact J_iret (pc := 14) dX6_remainder_14 rfl ⟨trivial, rfl⟩
  · refine J_iconst (pc := 5) (v := nI 0) dX6_remainder_5 (by decide) ?_
    refine J_goto (pc := 6) (tgt := 14) dX6_remainder_6 (by decide) ?_
    exact J_iret (pc := 14) dX6_remainder_14 rfl ⟨trivial, rfl⟩
set_option maxRecDepth 100000 in
set_option maxHeartbeats 4000000 in
theorem c_X2_goal {X : jX} (hs : X.1.stackTraces = false) {d : Nat} (hd : 0 ≤ d) {w : List jC} (a : Int32) (b : Int32) {kc ks : Nat} : jMet X mX2_goal d kc ks [.int a, .int b] w (pI (fun v => ∃ k : Nat, v = nI k ∧ k < 8) (fun w' => w' = w)) := by
  refine jMet_of hs (by decide +kernel) (Nat.le_of_ble_eq_true rfl) (L := [some (.int a), some (.int b)]) rfl ?_
  refine J_iload_n (pc := 0) dX2_goal_0 rfl rfl ?_
  refine J_iconst (pc := 1) (v := nI 3) dX2_goal_1 (by decide) ?_
  refine J_iload_n (pc := 2) dX2_goal_2 rfl rfl ?_
  refine J_imul (pc := 3) dX2_goal_3 (J_absI fun x1 => ?_)
  refine J_ishr (pc := 4) dX2_goal_4 (J_absI fun x2 => ?_)
  refine J_bipush (pc := 5) (v := nI 7) dX2_goal_5 (by decide) ?_
  refine J_iand (pc := 7) dX2_goal_7 (J_andE 3 7 (by decide) fun k3 hk3 => ?_)
  exact J_iret (pc := 8) dX2_goal_8 rfl ⟨⟨k3, rfl, by omega⟩, rfl⟩
set_option maxRecDepth 100000 in
set_option maxHeartbeats 4000000 in
theorem c_X2_with {X : jX} (hs : X.1.stackTraces = false) {d : Nat} (hd : 0 ≤ d) {w : List jC} (a : Int32) (b : Int32) (c : Int32) {kc ks : Nat} : jMet X mX2_with d kc ks [.int a, .int b, .int c] w (pI (fun _ => True) (fun w' => w' = w)) := by
  refine jMet_of hs (by decide +kernel) (Nat.le_of_ble_eq_true rfl) (L := [some (.int a), some (.int b), some (.int c)]) rfl ?_
  refine J_iload_n (pc := 0) dX2_with_0 rfl rfl ?_
  refine J_bipush (pc := 1) (v := nI 7) dX2_with_1 (by decide) ?_
  refine J_iconst (pc := 3) (v := nI 3) dX2_with_3 (by decide) ?_
  refine J_iload_n (pc := 4) dX2_with_4 rfl rfl ?_
  refine J_imul (pc := 5) dX2_with_5 (J_absI fun x1 => ?_)
  refine J_ishl (pc := 6) dX2_with_6 (J_absI fun x2 => ?_)
  refine J_iconst (pc := 7) (v := (-1)) dX2_with_7 (by decide) ?_
  refine J_ixor (pc := 8) dX2_with_8 (J_absI fun x3 => ?_)
  refine J_iand (pc := 9) dX2_with_9 (J_absI fun x4 => ?_)
  refine J_iload_n (pc := 10) dX2_with_10 rfl rfl ?_
  refine J_iconst (pc := 11) (v := nI 3) dX2_with_11 (by decide) ?_
  refine J_iload_n (pc := 12) dX2_with_12 rfl rfl ?_
  refine J_imul (pc := 13) dX2_with_13 (J_absI fun x5 => ?_)
  refine J_ishl (pc := 14) dX2_with_14 (J_absI fun x6 => ?_)
  refine J_ior (pc := 15) dX2_with_15 (J_absI fun x7 => ?_)
  exact J_iret (pc := 16) dX2_with_16 rfl ⟨trivial, rfl⟩
set_option maxRecDepth 100000 in
set_option maxHeartbeats 4000000 in
theorem c_X2_both {X : jX} (hs : X.1.stackTraces = false) {d : Nat} (hd : 0 ≤ d) {w : List jC} (a : Int32) (b : Int32) {kc ks : Nat} : jMet X mX2_both d kc ks [.int a, .int b] w (pI (fun _ => True) (fun w' => w' = w)) := by
  refine jMet_of hs (by decide +kernel) (Nat.le_of_ble_eq_true rfl) (L := [some (.int a), some (.int b), none, none]) rfl ?_
  refine J_iconst (pc := 0) (v := nI 0) dX2_both_0 (by decide) ?_
  refine J_istore_n (pc := 1) dX2_both_1 rfl (by decide) rfl ?_
  show J X mX2_both d kc ks 2 [some (.int a), some (.int b), some (.int (nI 0)), none] [] w _
  refine J_iconst (pc := 2) (v := nI 0) dX2_both_2 (by decide) ?_
  refine J_istore_n (pc := 3) dX2_both_3 rfl (by decide) rfl ?_
  show J X mX2_both d kc ks 4 [some (.int a), some (.int b), some (.int (nI 0)), some (.int (nI 0))] [] w _
  have lp4_1 : ∀ (fuel : Nat) (z2 : Int32) (c3 : Nat), c3 < 2147483648 → 21 - c3 < fuel → J X mX2_both d kc ks 4 [some (.int a), some (.int b), some (.int z2), some (.int (nI c3))] [] w (pI (fun _ => True) (fun w' => w' = w)) := by
    intro fuellp4_1
    induction fuellp4_1 with
    | zero => intros; omega
    | succ fuellp4_1 ihlp4_1 =>
      intro z2 c3 hi2 hf3
      refine J_iload_n (pc := 4) dX2_both_4 rfl rfl ?_
      refine J_bipush (pc := 5) (v := nI 21) dX2_both_5 (by decide) ?_
      refine J_icmp_geN (pc := 7) (tgt := 34) dX2_both_7 (by decide) (by omega) (by omega) (fun ht4 => ?_) (fun hf5 => ?_)
      · refine J_iload_n (pc := 34) dX2_both_34 rfl rfl ?_
        exact J_iret (pc := 35) dX2_both_35 rfl ⟨trivial, rfl⟩
      · refine J_iload_n (pc := 10) dX2_both_10 rfl rfl ?_
        refine J_iload_n (pc := 11) dX2_both_11 rfl rfl ?_
        refine J_iconst (pc := 12) (v := nI 3) dX2_both_12 (by decide) ?_
        refine J_iload_n (pc := 13) dX2_both_13 rfl rfl ?_
        refine J_iload_n (pc := 14) dX2_both_14 rfl rfl ?_
        refine J_ishr (pc := 15) dX2_both_15 (J_absI fun x6 => ?_)
        refine J_bipush (pc := 16) (v := nI 7) dX2_both_16 (by decide) ?_
        refine J_iand (pc := 18) dX2_both_18 (J_andE 3 7 (by decide) fun k7 hk7 => ?_)
        refine J_imulN (pc := 19) dX2_both_19 ?_
        refine J_ishr (pc := 20) dX2_both_20 (J_absI fun x8 => ?_)
        refine J_bipush (pc := 21) (v := nI 7) dX2_both_21 (by decide) ?_
        refine J_iand (pc := 23) dX2_both_23 (J_andE 3 7 (by decide) fun k9 hk9 => ?_)
        refine J_iload_n (pc := 24) dX2_both_24 rfl rfl ?_
        refine J_ishl (pc := 25) dX2_both_25 (J_absI fun x10 => ?_)
        refine J_ior (pc := 26) dX2_both_26 (J_absI fun x11 => ?_)
        refine J_istore_n (pc := 27) dX2_both_27 rfl (by decide) rfl ?_
        show J X mX2_both d kc ks 28 [some (.int a), some (.int b), some (.int x11), some (.int (nI c3))] [] w _
        refine J_iincN (pc := 28) (b := 3) dX2_both_28 rfl (by decide) (by decide) rfl ?_
        show J X mX2_both d kc ks 31 [some (.int a), some (.int b), some (.int x11), some (.int (nI (c3 + 3)))] [] w _
        refine J_goto (pc := 31) (tgt := 4) dX2_both_31 (by decide) ?_
        exact J_sub (L' := [some (.int a), some (.int b), some (.int x11), some (.int (nI (c3 + 3)))]) ⟨rfl, ⟨rfl, ⟨rfl, ⟨rfl, trivial⟩⟩⟩⟩ (ihlp4_1 x11 (c3 + 3) (by first | assumption | omega) (by omega))
  exact J_sub (L' := [some (.int a), some (.int b), some (.int (nI 0)), some (.int (nI 0))]) ⟨rfl, ⟨rfl, ⟨rfl, ⟨rfl, trivial⟩⟩⟩⟩ (lp4_1 _ (nI 0) 0 (by first | assumption | omega) (Nat.lt_succ_self _))
set_option maxRecDepth 100000 in
set_option maxHeartbeats 4000000 in
theorem c_X2_ringOf {X : jX} (hs : X.1.stackTraces = false) {d : Nat} (hd : 1 ≤ d) {w : List jC} (a : Int32) (b : Int32) {kc ks : Nat} : jMet X mX2_ringOf d kc ks [.int a, .int b] w (pI (fun _ => True) (fun w' => w' = w)) := by
  refine jMet_of hs (by decide +kernel) (Nat.le_of_ble_eq_true rfl) (L := [some (.int a), some (.int b), none, none, none]) rfl ?_
  refine J_iconst (pc := 0) (v := nI 0) dX2_ringOf_0 (by decide) ?_
  refine J_istore_n (pc := 1) dX2_ringOf_1 rfl (by decide) rfl ?_
  show J X mX2_ringOf d kc ks 2 [some (.int a), some (.int b), some (.int (nI 0)), none, none] [] w _
  refine J_iload_n (pc := 2) dX2_ringOf_2 rfl rfl ?_
  refine J_istore_n (pc := 3) dX2_ringOf_3 rfl (by decide) rfl ?_
  show J X mX2_ringOf d kc ks 4 [some (.int a), some (.int b), some (.int (nI 0)), some (.int b), none] [] w _
  refine J_iconst (pc := 4) (v := nI 0) dX2_ringOf_4 (by decide) ?_
  refine J_istore (pc := 5) dX2_ringOf_5 (by decide) rfl ?_
  show J X mX2_ringOf d kc ks 7 [some (.int a), some (.int b), some (.int (nI 0)), some (.int b), some (.int (nI 0))] [] w _
  have lp7_1 : ∀ (fuel : Nat) (z2 : Int32) (z3 : Int32) (c4 : Nat), c4 < 2147483648 → 7 - c4 < fuel → J X mX2_ringOf d kc ks 7 [some (.int a), some (.int b), some (.int z2), some (.int z3), some (.int (nI c4))] [] w (pI (fun _ => True) (fun w' => w' = w)) := by
    intro fuellp7_1
    induction fuellp7_1 with
    | zero => intros; omega
    | succ fuellp7_1 ihlp7_1 =>
      intro z2 z3 c4 hi2 hf3
      refine J_iload (pc := 7) dX2_ringOf_7 rfl ?_
      refine J_bipush (pc := 9) (v := nI 7) dX2_ringOf_9 (by decide) ?_
      refine J_icmp_geN (pc := 11) (tgt := 40) dX2_ringOf_11 (by decide) (by omega) (by omega) (fun ht4 => ?_) (fun hf5 => ?_)
      · refine J_iload_n (pc := 40) dX2_ringOf_40 rfl rfl ?_
        exact J_iret (pc := 41) dX2_ringOf_41 rfl ⟨trivial, rfl⟩
      · refine J_iload_n (pc := 14) dX2_ringOf_14 rfl rfl ?_
        refine J_iload_n (pc := 15) dX2_ringOf_15 rfl rfl ?_
        refine J_callSN0 (pc := 16) (as := [.int z2, .int z3]) dX2_ringOf_16 fw_X6_has fl_X2_36 fs_X6_has rfl (c_X6_has hs (d := d - 1) (by omega) (w := w) z2 z3 (kc := 0) (ks := 0)) (by omega) (st := []) (Nat.le_of_ble_eq_true rfl) rfl (kr_P fun v6 hv6 => ?_) kx_I
        obtain ⟨k6, rfl, hk6⟩ := hv6
        refine J_if_neN (pc := 19) (tgt := 40) dX2_ringOf_19 (by decide) (by omega) (fun ht7 => ?_) (fun hf8 => ?_)
        · refine J_iload_n (pc := 40) dX2_ringOf_40 rfl rfl ?_
          exact J_iret (pc := 41) dX2_ringOf_41 rfl ⟨trivial, rfl⟩
        · refine J_iload_n (pc := 22) dX2_ringOf_22 rfl rfl ?_
          refine J_iconst (pc := 23) (v := nI 1) dX2_ringOf_23 (by decide) ?_
          refine J_iload_n (pc := 24) dX2_ringOf_24 rfl rfl ?_
          refine J_ishl (pc := 25) dX2_ringOf_25 (J_absI fun x9 => ?_)
          refine J_ior (pc := 26) dX2_ringOf_26 (J_absI fun x10 => ?_)
          refine J_istore_n (pc := 27) dX2_ringOf_27 rfl (by decide) rfl ?_
          show J X mX2_ringOf d kc ks 28 [some (.int a), some (.int b), some (.int x10), some (.int z3), some (.int (nI c4))] [] w _
          refine J_iload_n (pc := 28) dX2_ringOf_28 rfl rfl ?_
          refine J_iload_n (pc := 29) dX2_ringOf_29 rfl rfl ?_
          refine J_callS0 (pc := 30) (as := [.int a, .int z3]) dX2_ringOf_30 fw_X2_goal fl_X2_16 fs_X2_goal rfl (c_X2_goal hs (d := d - 1) (by omega) (w := w) a z3 (kc := 0) (ks := 0)) (by omega) (st := []) (Nat.le_of_ble_eq_true rfl) rfl (kr_P fun v11 hv11 => ?_) kx_I
          obtain ⟨k11, rfl, hk11⟩ := hv11
          refine J_istore_n (pc := 33) dX2_ringOf_33 rfl (by decide) rfl ?_
          show J X mX2_ringOf d kc ks 34 [some (.int a), some (.int b), some (.int x10), some (.int (nI k11)), some (.int (nI c4))] [] w _
          refine J_iincN (pc := 34) (b := 1) dX2_ringOf_34 rfl (by decide) (by decide) rfl ?_
          show J X mX2_ringOf d kc ks 37 [some (.int a), some (.int b), some (.int x10), some (.int (nI k11)), some (.int (nI (c4 + 1)))] [] w _
          refine J_goto (pc := 37) (tgt := 7) dX2_ringOf_37 (by decide) ?_
          exact J_sub (L' := [some (.int a), some (.int b), some (.int x10), some (.int (nI k11)), some (.int (nI (c4 + 1)))]) ⟨rfl, ⟨rfl, ⟨rfl, ⟨rfl, ⟨rfl, trivial⟩⟩⟩⟩⟩ (ihlp7_1 x10 (nI k11) (c4 + 1) (by first | assumption | omega) (by omega))
  exact J_sub (L' := [some (.int a), some (.int b), some (.int (nI 0)), some (.int b), some (.int (nI 0))]) ⟨rfl, ⟨rfl, ⟨rfl, ⟨rfl, ⟨rfl, trivial⟩⟩⟩⟩⟩ (lp7_1 _ (nI 0) b 0 (by first | assumption | omega) (Nat.lt_succ_self _))
set_option maxRecDepth 100000 in
set_option maxHeartbeats 4000000 in
theorem c_X2_ringLength {X : jX} (hs : X.1.stackTraces = false) {d : Nat} (hd : 2 ≤ d) {w : List jC} (a : Int32) (b : Int32) {kc ks : Nat} : jMet X mX2_ringLength d kc ks [.int a, .int b] w (pI (fun v => ∃ k : Nat, v = nI k ∧ k < 64) (fun w' => w' = w)) := by
  refine jMet_of hs (by decide +kernel) (Nat.le_of_ble_eq_true rfl) (L := [some (.int a), some (.int b)]) rfl ?_
  refine J_iload_n (pc := 0) dX2_ringLength_0 rfl rfl ?_
  refine J_iload_n (pc := 1) dX2_ringLength_1 rfl rfl ?_
  refine J_callS0 (pc := 2) (as := [.int a, .int b]) dX2_ringLength_2 fw_X2_ringOf fl_X2_40 fs_X2_ringOf rfl (c_X2_ringOf hs (d := d - 1) (by omega) (w := w) a b (kc := 0) (ks := 0)) (by omega) (st := []) (Nat.le_of_ble_eq_true rfl) rfl (kr_P fun v1 hv1 => ?_) kx_I
  refine J_callS0 (pc := 5) (as := [.int v1]) dX2_ringLength_5 fw_J6_bitCount_0f7a4 fl_X2_43 fs_J6_bitCount_0f7a4 rfl (c_J6_bitCount_0f7a4 hs (d := d - 1) (by omega) (w := w) v1 (kc := 0) (ks := 0)) (by omega) (st := []) (Nat.le_of_ble_eq_true rfl) rfl (kr_P fun v2 hv2 => ?_) kx_I
  obtain ⟨k2, rfl, hk2⟩ := hv2
  exact J_iret (pc := 8) dX2_ringLength_8 rfl ⟨⟨k2, rfl, by omega⟩, rfl⟩
set_option maxRecDepth 100000 in
set_option maxHeartbeats 4000000 in
theorem c_X2_ringsOfLength {X : jX} (hs : X.1.stackTraces = false) {d : Nat} (hd : 2 ≤ d) {w : List jC} (a : Int32) (b : Int32) (k : Nat) (hy0 : k ≤ 7) {kc ks : Nat} : jMet X mX2_ringsOfLength d kc ks [.int a, .int b, .int (nI k)] w (pI (fun v => ∃ j : Nat, v = nI j ∧ j ≤ k) (fun w' => w' = w)) := by
  refine jMet_of hs (by decide +kernel) (Nat.le_of_ble_eq_true rfl) (L := [some (.int a), some (.int b), some (.int (nI k)), none, none, none]) rfl ?_
  refine J_iconst (pc := 0) (v := nI 0) dX2_ringsOfLength_0 (by decide) ?_
  refine J_istore_n (pc := 1) dX2_ringsOfLength_1 rfl (by decide) rfl ?_
  show J X mX2_ringsOfLength d kc ks 2 [some (.int a), some (.int b), some (.int (nI k)), some (.int (nI 0)), none, none] [] w _
  refine J_iconst (pc := 2) (v := nI 0) dX2_ringsOfLength_2 (by decide) ?_
  refine J_istore (pc := 3) dX2_ringsOfLength_3 (by decide) rfl ?_
  show J X mX2_ringsOfLength d kc ks 5 [some (.int a), some (.int b), some (.int (nI k)), some (.int (nI 0)), some (.int (nI 0)), none] [] w _
  have lp5_1 : ∀ (fuel : Nat) (b3 : Nat) (c4 : Nat), c4 < 2147483648 → b3 ≤ c4 → c4 ≤ k → k - c4 < fuel → J X mX2_ringsOfLength d kc ks 5 [some (.int a), some (.int b), some (.int (nI k)), some (.int (nI b3)), some (.int (nI c4)), none] [] w (pI (fun v => ∃ j : Nat, v = nI j ∧ j ≤ k) (fun w' => w' = w)) := by
    intro fuellp5_1
    induction fuellp5_1 with
    | zero => intros; omega
    | succ fuellp5_1 ihlp5_1 =>
      intro b3 c4 hi2 hi3 hi4 hf5
      refine J_iload (pc := 5) dX2_ringsOfLength_5 rfl ?_
      refine J_iload_n (pc := 7) dX2_ringsOfLength_7 rfl rfl ?_
      refine J_icmp_geN (pc := 8) (tgt := 47) dX2_ringsOfLength_8 (by decide) (by omega) (by omega) (fun ht6 => ?_) (fun hf7 => ?_)
      · refine J_iload_n (pc := 47) dX2_ringsOfLength_47 rfl rfl ?_
        exact J_iret (pc := 48) dX2_ringsOfLength_48 rfl ⟨⟨b3, rfl, by omega⟩, rfl⟩
      · refine J_iload_n (pc := 11) dX2_ringsOfLength_11 rfl rfl ?_
        refine J_iload (pc := 12) dX2_ringsOfLength_12 rfl ?_
        refine J_callS0 (pc := 14) (as := [.int a, .int (nI c4)]) dX2_ringsOfLength_14 fw_X2_ringOf fl_X2_40 fs_X2_ringOf rfl (c_X2_ringOf hs (d := d - 1) (by omega) (w := w) a (nI c4) (kc := 0) (ks := 0)) (by omega) (st := []) (Nat.le_of_ble_eq_true rfl) rfl (kr_P fun v8 hv8 => ?_) kx_I
        refine J_istore (pc := 17) dX2_ringsOfLength_17 (by decide) rfl ?_
        show J X mX2_ringsOfLength d kc ks 19 [some (.int a), some (.int b), some (.int (nI k)), some (.int (nI b3)), some (.int (nI c4)), some (.int v8)] [] w _
        refine J_iload (pc := 19) dX2_ringsOfLength_19 rfl ?_
        refine J_iload (pc := 21) dX2_ringsOfLength_21 rfl ?_
        refine J_callSN0 (pc := 23) (as := [.int v8, .int (nI c4)]) dX2_ringsOfLength_23 fw_X6_howManyBelow fl_X2_19 fs_X6_howManyBelow rfl (c_X6_howManyBelow hs (d := d - 1) (by omega) (w := w) v8 (nI c4) (kc := 0) (ks := 0)) (by omega) (st := []) (Nat.le_of_ble_eq_true rfl) rfl (kr_P fun v9 hv9 => ?_) kx_I
        obtain ⟨k9, rfl, hk9⟩ := hv9
        refine J_if_neN (pc := 26) (tgt := 41) dX2_ringsOfLength_26 (by decide) (by omega) (fun ht10 => ?_) (fun hf11 => ?_)
        · refine J_iincN (pc := 41) (b := 1) dX2_ringsOfLength_41 rfl (by decide) (by decide) rfl ?_
          show J X mX2_ringsOfLength d kc ks 44 [some (.int a), some (.int b), some (.int (nI k)), some (.int (nI b3)), some (.int (nI (c4 + 1))), some (.int v8)] [] w _
          refine J_goto (pc := 44) (tgt := 5) dX2_ringsOfLength_44 (by decide) ?_
          exact J_sub (L' := [some (.int a), some (.int b), some (.int (nI k)), some (.int (nI b3)), some (.int (nI (c4 + 1))), none]) ⟨rfl, ⟨rfl, ⟨rfl, ⟨rfl, ⟨rfl, trivial⟩⟩⟩⟩⟩ (ihlp5_1 b3 (c4 + 1) (by first | assumption | omega) (by first | assumption | omega) (by first | assumption | omega) (by omega))
        · refine J_iload (pc := 29) dX2_ringsOfLength_29 rfl ?_
          refine J_callS0 (pc := 31) (as := [.int v8]) dX2_ringsOfLength_31 fw_J6_bitCount_0f7a4 fl_X2_43 fs_J6_bitCount_0f7a4 rfl (c_J6_bitCount_0f7a4 hs (d := d - 1) (by omega) (w := w) v8 (kc := 0) (ks := 0)) (by omega) (st := []) (Nat.le_of_ble_eq_true rfl) rfl (kr_P fun v12 hv12 => ?_) kx_I
          obtain ⟨k12, rfl, hk12⟩ := hv12
          refine J_iload_n (pc := 34) dX2_ringsOfLength_34 rfl rfl ?_
          refine J_icmp_ne (pc := 35) (tgt := 41) dX2_ringsOfLength_35 (by decide) (fun ht13 => ?_) (fun hf14 => ?_)
          · refine J_iincN (pc := 41) (b := 1) dX2_ringsOfLength_41 rfl (by decide) (by decide) rfl ?_
            show J X mX2_ringsOfLength d kc ks 44 [some (.int a), some (.int b), some (.int (nI k)), some (.int (nI b3)), some (.int (nI (c4 + 1))), some (.int v8)] [] w _
            refine J_goto (pc := 44) (tgt := 5) dX2_ringsOfLength_44 (by decide) ?_
            exact J_sub (L' := [some (.int a), some (.int b), some (.int (nI k)), some (.int (nI b3)), some (.int (nI (c4 + 1))), none]) ⟨rfl, ⟨rfl, ⟨rfl, ⟨rfl, ⟨rfl, trivial⟩⟩⟩⟩⟩ (ihlp5_1 b3 (c4 + 1) (by first | assumption | omega) (by first | assumption | omega) (by first | assumption | omega) (by omega))
          · refine J_iincN (pc := 38) (b := 1) dX2_ringsOfLength_38 rfl (by decide) (by decide) rfl ?_
            show J X mX2_ringsOfLength d kc ks 41 [some (.int a), some (.int b), some (.int (nI k)), some (.int (nI (b3 + 1))), some (.int (nI c4)), some (.int v8)] [] w _
            refine J_iincN (pc := 41) (b := 1) dX2_ringsOfLength_41 rfl (by decide) (by decide) rfl ?_
            show J X mX2_ringsOfLength d kc ks 44 [some (.int a), some (.int b), some (.int (nI k)), some (.int (nI (b3 + 1))), some (.int (nI (c4 + 1))), some (.int v8)] [] w _
            refine J_goto (pc := 44) (tgt := 5) dX2_ringsOfLength_44 (by decide) ?_
            exact J_sub (L' := [some (.int a), some (.int b), some (.int (nI k)), some (.int (nI (b3 + 1))), some (.int (nI (c4 + 1))), none]) ⟨rfl, ⟨rfl, ⟨rfl, ⟨rfl, ⟨rfl, trivial⟩⟩⟩⟩⟩ (ihlp5_1 (b3 + 1) (c4 + 1) (by first | assumption | omega) (by first | assumption | omega) (by first | assumption | omega) (by omega))
  exact J_sub (L' := [some (.int a), some (.int b), some (.int (nI k)), some (.int (nI 0)), some (.int (nI 0)), none]) ⟨rfl, ⟨rfl, ⟨rfl, ⟨rfl, ⟨rfl, trivial⟩⟩⟩⟩⟩ (lp5_1 _ 0 0 (by first | assumption | omega) (by first | assumption | omega) (by first | assumption | omega) (Nat.lt_succ_self _))
set_option maxRecDepth 100000 in
set_option maxHeartbeats 4000000 in
theorem c_X2_orderOf {X : jX} (hs : X.1.stackTraces = false) {d : Nat} (hd : 1 ≤ d) {w : List jC} (a : Int32) {kc ks : Nat} : jMet X mX2_orderOf d kc ks [.int a] w (pI (fun v => ∃ j : Nat, v = nI j ∧ 1 ≤ j ∧ j ≤ 12) (fun w' => w' = w)) := by
  refine jMet_of hs (by decide +kernel) (Nat.le_of_ble_eq_true rfl) (L := [some (.int a), none, none]) rfl ?_
  refine J_iload_n (pc := 0) dX2_orderOf_0 rfl rfl ?_
  refine J_istore_n (pc := 1) dX2_orderOf_1 rfl (by decide) rfl ?_
  show J X mX2_orderOf d kc ks 2 [some (.int a), some (.int a), none] [] w _
  refine J_iconst (pc := 2) (v := nI 1) dX2_orderOf_2 (by decide) ?_
  refine J_istore_n (pc := 3) dX2_orderOf_3 rfl (by decide) rfl ?_
  show J X mX2_orderOf d kc ks 4 [some (.int a), some (.int a), some (.int (nI 1))] [] w _
  have lp4_1 : ∀ (fuel : Nat) (z1 : Int32) (c2 : Nat), c2 < 2147483648 → 1 ≤ c2 → c2 ≤ 12 → 12 - c2 < fuel → J X mX2_orderOf d kc ks 4 [some (.int a), some (.int z1), some (.int (nI c2))] [] w (pI (fun v => ∃ j : Nat, v = nI j ∧ 1 ≤ j ∧ j ≤ 12) (fun w' => w' = w)) := by
    intro fuellp4_1
    induction fuellp4_1 with
    | zero => intros; omega
    | succ fuellp4_1 ihlp4_1 =>
      intro z1 c2 hi2 hi3 hi4 hf5
      refine J_iload_n (pc := 4) dX2_orderOf_4 rfl rfl ?_
      refine J_bipush (pc := 5) (v := nI 12) dX2_orderOf_5 (by decide) ?_
      refine J_icmp_geN (pc := 7) (tgt := 28) dX2_orderOf_7 (by decide) (by omega) (by omega) (fun ht6 => ?_) (fun hf7 => ?_)
      · refine J_iload_n (pc := 28) dX2_orderOf_28 rfl rfl ?_
        exact J_iret (pc := 29) dX2_orderOf_29 rfl ⟨⟨c2, rfl, by omega⟩, rfl⟩
      · refine J_iload_n (pc := 10) dX2_orderOf_10 rfl rfl ?_
        refine J_ldc (pc := 11) (v := nI 1754760) dX2_orderOf_11 (by have := fk_X2_11; exact this) ?_
        refine J_icmp_eq (pc := 13) (tgt := 28) dX2_orderOf_13 (by decide) (fun ht8 => ?_) (fun hf9 => ?_)
        · refine J_iload_n (pc := 28) dX2_orderOf_28 rfl rfl ?_
          exact J_iret (pc := 29) dX2_orderOf_29 rfl ⟨⟨c2, rfl, by omega⟩, rfl⟩
        · refine J_iload_n (pc := 16) dX2_orderOf_16 rfl rfl ?_
          refine J_iload_n (pc := 17) dX2_orderOf_17 rfl rfl ?_
          refine J_callS0 (pc := 18) (as := [.int z1, .int a]) dX2_orderOf_18 fw_X2_both fl_X2_12 fs_X2_both rfl (c_X2_both hs (d := d - 1) (by omega) (w := w) z1 a (kc := 0) (ks := 0)) (by omega) (st := []) (Nat.le_of_ble_eq_true rfl) rfl (kr_P fun v10 hv10 => ?_) kx_I
          refine J_istore_n (pc := 21) dX2_orderOf_21 rfl (by decide) rfl ?_
          show J X mX2_orderOf d kc ks 22 [some (.int a), some (.int v10), some (.int (nI c2))] [] w _
          refine J_iincN (pc := 22) (b := 1) dX2_orderOf_22 rfl (by decide) (by decide) rfl ?_
          show J X mX2_orderOf d kc ks 25 [some (.int a), some (.int v10), some (.int (nI (c2 + 1)))] [] w _
          refine J_goto (pc := 25) (tgt := 4) dX2_orderOf_25 (by decide) ?_
          exact J_sub (L' := [some (.int a), some (.int v10), some (.int (nI (c2 + 1)))]) ⟨rfl, ⟨rfl, ⟨rfl, trivial⟩⟩⟩ (ihlp4_1 v10 (c2 + 1) (by first | assumption | omega) (by first | assumption | omega) (by first | assumption | omega) (by omega))
  exact J_sub (L' := [some (.int a), some (.int a), some (.int (nI 1))]) ⟨rfl, ⟨rfl, ⟨rfl, trivial⟩⟩⟩ (lp4_1 _ a 1 (by first | assumption | omega) (by first | assumption | omega) (by first | assumption | omega) (Nat.lt_succ_self _))
set_option maxRecDepth 100000 in
set_option maxHeartbeats 4000000 in
theorem c_X2_withRing {X : jX} (hs : X.1.stackTraces = false) {d : Nat} (hd : 3 ≤ d) {w : List jC} (a : Int32) (b : Int32) (c : Int32) (f : Int32) (g : Int32) {kc ks : Nat} : jMet X mX2_withRing d kc ks [.int a, .int b, .int c, .int f, .int g] w (pI (fun _ => True) (fun w' => w' = w)) := by
  refine jMet_of hs (by decide +kernel) (Nat.le_of_ble_eq_true rfl) (L := [some (.int a), some (.int b), some (.int c), some (.int f), some (.int g), none, none, none, none]) rfl ?_
  refine J_iload_n (pc := 0) dX2_withRing_0 rfl rfl ?_
  refine J_istore (pc := 1) dX2_withRing_1 (by decide) rfl ?_
  show J X mX2_withRing d kc ks 3 [some (.int a), some (.int b), some (.int c), some (.int f), some (.int g), some (.int a), none, none, none] [] w _
  refine J_iload_n (pc := 3) dX2_withRing_3 rfl rfl ?_
  refine J_istore (pc := 4) dX2_withRing_4 (by decide) rfl ?_
  show J X mX2_withRing d kc ks 6 [some (.int a), some (.int b), some (.int c), some (.int f), some (.int g), some (.int a), some (.int c), none, none] [] w _
  refine J_iload (pc := 6) dX2_withRing_6 rfl ?_
  refine J_istore (pc := 8) dX2_withRing_8 (by decide) rfl ?_
  show J X mX2_withRing d kc ks 10 [some (.int a), some (.int b), some (.int c), some (.int f), some (.int g), some (.int a), some (.int c), some (.int g), none] [] w _
  refine J_iload_n (pc := 10) dX2_withRing_10 rfl rfl ?_
  refine J_iload_n (pc := 11) dX2_withRing_11 rfl rfl ?_
  refine J_callS0 (pc := 12) (as := [.int b, .int c]) dX2_withRing_12 fw_X2_ringLength fl_X2_54 fs_X2_ringLength rfl (c_X2_ringLength hs (d := d - 1) (by omega) (w := w) b c (kc := 0) (ks := 0)) (by omega) (st := []) (Nat.le_of_ble_eq_true rfl) rfl (kr_P fun v1 hv1 => ?_) kx_I
  obtain ⟨k1, rfl, hk1⟩ := hv1
  refine J_istore (pc := 15) dX2_withRing_15 (by decide) rfl ?_
  show J X mX2_withRing d kc ks 17 [some (.int a), some (.int b), some (.int c), some (.int f), some (.int g), some (.int a), some (.int c), some (.int g), some (.int (nI k1))] [] w _
  have lp17_2 : ∀ (fuel : Nat) (z5 : Int32) (z6 : Int32) (z7 : Int32) (c8 : Nat), c8 < 2147483648 → c8 < fuel → J X mX2_withRing d kc ks 17 [some (.int a), some (.int b), some (.int c), some (.int f), some (.int g), some (.int z5), some (.int z6), some (.int z7), some (.int (nI c8))] [] w (pI (fun _ => True) (fun w' => w' = w)) := by
    intro fuellp17_2
    induction fuellp17_2 with
    | zero => intros; omega
    | succ fuellp17_2 ihlp17_2 =>
      intro z5 z6 z7 c8 hi3 hf4
      refine J_iload (pc := 17) dX2_withRing_17 rfl ?_
      refine J_if_leN (pc := 19) (tgt := 55) dX2_withRing_19 (by decide) (by omega) (fun ht5 => ?_) (fun hf6 => ?_)
      · refine J_iload (pc := 55) dX2_withRing_55 rfl ?_
        exact J_iret (pc := 57) dX2_withRing_57 rfl ⟨trivial, rfl⟩
      · refine J_iload (pc := 22) dX2_withRing_22 rfl ?_
        refine J_iload (pc := 24) dX2_withRing_24 rfl ?_
        refine J_iload (pc := 26) dX2_withRing_26 rfl ?_
        refine J_callS0 (pc := 28) (as := [.int z5, .int z6, .int z7]) dX2_withRing_28 fw_X2_with fl_X2_32 fs_X2_with rfl (c_X2_with hs (d := d - 1) (by omega) (w := w) z5 z6 z7 (kc := 0) (ks := 0)) (by omega) (st := []) (Nat.le_of_ble_eq_true rfl) rfl (kr_P fun v7 hv7 => ?_) kx_I
        refine J_istore (pc := 31) dX2_withRing_31 (by decide) rfl ?_
        show J X mX2_withRing d kc ks 33 [some (.int a), some (.int b), some (.int c), some (.int f), some (.int g), some (.int v7), some (.int z6), some (.int z7), some (.int (nI c8))] [] w _
        refine J_iload_n (pc := 33) dX2_withRing_33 rfl rfl ?_
        refine J_iload (pc := 34) dX2_withRing_34 rfl ?_
        refine J_callS0 (pc := 36) (as := [.int b, .int z6]) dX2_withRing_36 fw_X2_goal fl_X2_16 fs_X2_goal rfl (c_X2_goal hs (d := d - 1) (by omega) (w := w) b z6 (kc := 0) (ks := 0)) (by omega) (st := []) (Nat.le_of_ble_eq_true rfl) rfl (kr_P fun v8 hv8 => ?_) kx_I
        obtain ⟨k8, rfl, hk8⟩ := hv8
        refine J_istore (pc := 39) dX2_withRing_39 (by decide) rfl ?_
        show J X mX2_withRing d kc ks 41 [some (.int a), some (.int b), some (.int c), some (.int f), some (.int g), some (.int v7), some (.int (nI k8)), some (.int z7), some (.int (nI c8))] [] w _
        refine J_iload_n (pc := 41) dX2_withRing_41 rfl rfl ?_
        refine J_iload (pc := 42) dX2_withRing_42 rfl ?_
        refine J_callS0 (pc := 44) (as := [.int f, .int z7]) dX2_withRing_44 fw_X2_goal fl_X2_16 fs_X2_goal rfl (c_X2_goal hs (d := d - 1) (by omega) (w := w) f z7 (kc := 0) (ks := 0)) (by omega) (st := []) (Nat.le_of_ble_eq_true rfl) rfl (kr_P fun v9 hv9 => ?_) kx_I
        obtain ⟨k9, rfl, hk9⟩ := hv9
        refine J_istore (pc := 47) dX2_withRing_47 (by decide) rfl ?_
        show J X mX2_withRing d kc ks 49 [some (.int a), some (.int b), some (.int c), some (.int f), some (.int g), some (.int v7), some (.int (nI k8)), some (.int (nI k9)), some (.int (nI c8))] [] w _
        refine J_iincM (pc := 49) dX2_withRing_49 rfl (by omega) (by decide) rfl ?_
        show J X mX2_withRing d kc ks 52 [some (.int a), some (.int b), some (.int c), some (.int f), some (.int g), some (.int v7), some (.int (nI k8)), some (.int (nI k9)), some (.int (nI (c8 - 1)))] [] w _
        refine J_goto (pc := 52) (tgt := 17) dX2_withRing_52 (by decide) ?_
        exact J_sub (L' := [some (.int a), some (.int b), some (.int c), some (.int f), some (.int g), some (.int v7), some (.int (nI k8)), some (.int (nI k9)), some (.int (nI (c8 - 1)))]) ⟨rfl, ⟨rfl, ⟨rfl, ⟨rfl, ⟨rfl, ⟨rfl, ⟨rfl, ⟨rfl, ⟨rfl, trivial⟩⟩⟩⟩⟩⟩⟩⟩⟩ (ihlp17_2 v7 (nI k8) (nI k9) (c8 - 1) (by first | assumption | omega) (by omega))
  exact J_sub (L' := [some (.int a), some (.int b), some (.int c), some (.int f), some (.int g), some (.int a), some (.int c), some (.int g), some (.int (nI k1))]) ⟨rfl, ⟨rfl, ⟨rfl, ⟨rfl, ⟨rfl, ⟨rfl, ⟨rfl, ⟨rfl, ⟨rfl, trivial⟩⟩⟩⟩⟩⟩⟩⟩⟩ (lp17_2 _ a c g k1 (by first | assumption | omega) (Nat.lt_succ_self _))
